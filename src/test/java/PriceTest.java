/** Promises 29 to 31 and 35: prices, what was paid, and who paid most. */
public final class PriceTest {
    private static void prices() {
        LaundryService s = new LaundryService();
        s.bring(0, false, 1, 0);
        s.bring(0, false, 1, 0);
        s.bring(1, false, 1, 0);
        s.bring(3, false, 1, 0);
        Check.same("29 empty", s.price(0, 0), 0f);
        s.load(0, 0);
        Check.same("29 one payer", s.price(0, 0), 6.25f);
        Check.same("29 none in it", s.price(0, 1), 0f);
        Check.same("29 other machine", s.price(1, 0), 0f);
        s.load(1, 0);
        Check.same("29 two garments, one payer", s.price(0, 0), 7.5f);
        s.load(2, 0);
        Check.same("29 two payers", s.price(0, 0), 5f);
        Check.same("29 the second payer", s.price(0, 1), 3.75f);
        s.load(3, 0);
        float third = (float) (40f * 0.125 / 3);
        Check.same("29 three payers", s.price(0, 0), 2.5f + third);
        Check.same("29 the third payer", s.price(0, 3), 1.25f + third);
        s.setTemperature(0, 91);
        Check.same("29 at 45.5", s.price(0, 3), 1.25f + (float) (45.5f * 0.125 / 3));
        int[] noMachines = {-1, 2};
        for (int machine : noMachines) {
            Check.noIndex("29 machine " + machine, () -> s.price(machine, 0));
        }
        int[] noClients = {-1, 4};
        for (int client : noClients) {
            Check.noIndex("29 client " + client, () -> s.price(0, client));
            Check.noIndex("30 client " + client, () -> s.paid(client));
            Check.noIndex("31 client " + client, () -> s.paidBits(client));
        }
        Check.same("30 nothing paid", s.paid(0), 0f);
    }

    private static void allTemperatures() {
        LaundryService s = new LaundryService();
        for (int client = 0; client < 4; client++) {
            s.bring(client, false, 1, 0);
        }
        s.bring(0, false, 1, 0);
        float[] sums = new float[4];
        for (int i = 0; i < 30; i++) {
            int payers = i % 4 + 1;
            int halves = 40 + 37 * i % 141;
            s.setTemperature(0, halves);
            for (int client = 0; client < payers; client++) {
                s.load(client, 0);
            }
            s.load(4, 0);
            for (int client = 0; client < payers; client++) {
                float price = (client == 0 ? 2.5f : 1.25f) + halves / 2f * 0.125f / payers;
                Check.same("29 at " + halves, s.price(0, client), price);
                sums[client] += price;
            }
            s.run(0);
            for (int client = 0; client < 4; client++) {
                Check.same("30 paid", s.paid(client), sums[client]);
                Check.same("31 bits", s.paidBits(client), Float.floatToIntBits(sums[client]));
            }
        }
    }

    private static void lostSocksArePaidFor() {
        LaundryService s = new LaundryService();
        s.bring(2, true, 1, 0);
        s.load(0, 1);
        Check.same("31 nothing paid", s.paidBits(2), 0);
        s.run(1);
        Check.same("13 lost", s.place(0), 'x');
        Check.same("30 paid", s.paid(2), 6.25f);
    }

    private static void spenders() {
        LaundryService s = new LaundryService();
        for (int rank = 0; rank < 4; rank++) {
            Check.same("35 nothing paid", s.spender(rank), rank);
        }
        s.bring(3, false, 1, 0);
        s.bring(1, false, 1, 0);
        s.bring(1, false, 1, 0);
        s.bring(2, false, 1, 0);
        for (int i = 0; i < 4; i++) {
            s.load(i, 0);
        }
        s.run(0);
        int[] due = {1, 2, 3, 0};
        for (int rank = 0; rank < 4; rank++) {
            Check.same("35 rank " + rank, s.spender(rank), due[rank]);
        }
        int[] none = {-1, 4, Integer.MIN_VALUE, Integer.MAX_VALUE};
        for (int rank : none) {
            Check.noElement("35 rank " + rank, () -> s.spender(rank));
        }
    }

    public static void main(String[] args) {
        prices();
        allTemperatures();
        lostSocksArePaidFor();
        spenders();
        Check.end();
    }
}
