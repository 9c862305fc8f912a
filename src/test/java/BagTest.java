/** Promises 15 to 18, 43 and 44: pairs, bags and the output. */
public final class BagTest {
    private static void partner() {
        LaundryService s = new LaundryService();
        s.bring(0, true, 3, 0);
        Check.noElement("15 alone", () -> s.partner(0));
        s.bring(1, true, 3, 0);
        s.bring(0, true, 4, 0);
        s.bring(0, false, 3, 0);
        Check.noElement("15 another client, colour, kind", () -> s.partner(0));
        s.bring(0, true, 3, 255);
        Check.same("15 first", s.partner(0), 4);
        Check.same("15 second", s.partner(4), 0);
        s.bring(0, true, 3, 1);
        Check.noElement("15 third is alone", () -> s.partner(5));
        s.bring(0, true, 3, 2);
        Check.same("15 third", s.partner(5), 6);
        Check.same("15 fourth", s.partner(6), 5);
        Check.same("15 first stays", s.partner(0), 4);
        s.load(4, 0);
        Check.same("15 first without second", s.partner(0), 5);
        Check.same("15 third without second", s.partner(5), 0);
        Check.noElement("15 fourth without second", () -> s.partner(6));
        Check.noElement("15 not in the bag", () -> s.partner(4));
        s.load(6, 0);
        Check.noElement("15 both in a machine", () -> s.partner(6));
        Check.unsupported("15 no sock", () -> s.partner(3));
        Check.noIndex("15 garment -1", () -> s.partner(-1));
        Check.noIndex("15 garment 7", () -> s.partner(7));
    }

    private static void lostHasNoPartner() {
        LaundryService s = new LaundryService();
        s.bring(0, true, 3, 0);
        s.bring(0, true, 3, 0);
        s.load(0, 0);
        s.run(0);
        Check.same("13 lost", s.place(0), 'x');
        Check.noElement("15 lost", () -> s.partner(0));
        Check.noElement("15 the other one is lost", () -> s.partner(1));
        Check.same("16 none", s.pairCount(0), 0);
    }

    private static void pairs(LaundryService s, int client, int due) {
        Check.same("16 pairCount " + client, s.pairCount(client), due);
        Check.same("17 pairCountByParity " + client, s.pairCountByParity(client), due);
    }

    private static void pairCounts() {
        LaundryService two = new LaundryService();
        two.bring(0, true, 1, 1);
        two.bring(0, true, 1, 2);
        pairs(two, 0, 1);
        LaundryService s = new LaundryService();
        for (int client = 0; client < 4; client++) {
            pairs(s, client, 0);
        }
        for (int i = 0; i < 5; i++) {
            s.bring(2, true, 7, i);
        }
        s.bring(2, true, 0, 0);
        s.bring(2, true, 0, 0);
        s.bring(2, true, 1, 0);
        s.bring(2, false, 1, 0);
        s.bring(1, true, 1, 0);
        pairs(s, 0, 0);
        pairs(s, 1, 0);
        pairs(s, 2, 3);
        s.load(5, 1);
        pairs(s, 2, 2);
        s.load(0, 1);
        pairs(s, 2, 2);
        s.load(1, 1);
        pairs(s, 2, 1);
        Check.noIndex("16 client -1", () -> s.pairCount(-1));
        Check.noIndex("16 client 4", () -> s.pairCount(4));
        Check.noIndex("17 client -1", () -> s.pairCountByParity(-1));
        Check.noIndex("17 client 4", () -> s.pairCountByParity(4));
    }

    private static void inBag() {
        LaundryService s = new LaundryService();
        Check.same("18 empty", s.inBag(0), 0);
        for (int i = 0; i < 16; i++) {
            s.bring(i == 15 ? 3 : i % 3, false, 0, 0);
        }
        Check.same("18 client 0", s.inBag(0), 0b0001001001001001);
        Check.same("18 client 3", s.inBag(3), 1 << 15);
        s.load(0, 0);
        s.load(3, 1);
        Check.same("18 without the loaded ones", s.inBag(0), 0b0001001001000000);
        Check.noIndex("18 client -1", () -> s.inBag(-1));
        Check.noIndex("18 client 4", () -> s.inBag(4));
    }

    private static void output() {
        LaundryService s = new LaundryService();
        Check.noIndex("44 initially empty", () -> s.outputChar(0));
        s.bring(0, true, 3, 5);
        s.bring(1, false, 7, 255);
        s.bring(0, true, 1, 0);
        s.bring(0, false, 0, 0);
        s.load(2, 0);
        Check.same("43 length", s.writeBag(0), 7);
        Check.same("43 the example", Check.output(s, 7), "s3** g0");
        Check.noIndex("44 behind the end", () -> s.outputChar(7));
        Check.noIndex("44 before the start", () -> s.outputChar(-1));
        Check.same("43 replaced", s.writeBag(1), 10);
        Check.same("43 one garment", Check.output(s, 10), "g7********");
        Check.same("43 empty bag", s.writeBag(2), 0);
        Check.noIndex("44 replaced by nothing", () -> s.outputChar(0));
        s.writeBag(0);
        Check.noIndex("43 client -1", () -> s.writeBag(-1));
        Check.noIndex("43 client 4", () -> s.writeBag(4));
        s.takeOut(2);
        Check.same("43 stays until it is replaced", Check.output(s, 7), "s3** g0");
        Check.same("43 length again", s.writeBag(0), 10);
        Check.same("43 in the order of the indices", Check.output(s, 10), "s3** s1 g0");
    }

    private static void fullestBag() {
        LaundryService s = new LaundryService();
        StringBuilder due = new StringBuilder();
        for (int i = 0; i < 16; i++) {
            s.bring(3, i % 2 == 0, i % 8, 255);
            due.append(i == 0 ? "" : " ").append(i % 2 == 0 ? 's' : 'g').append(i % 8).append("********");
        }
        Check.same("43 fullest bag", s.writeBag(3), 175);
        Check.same("44 fullest bag", Check.output(s, 175), due.toString());
        Check.noIndex("44 behind the fullest bag", () -> s.outputChar(175));
    }

    public static void main(String[] args) {
        partner();
        lostHasNoPartner();
        pairCounts();
        inBag();
        output();
        fullestBag();
        Check.end();
    }
}
