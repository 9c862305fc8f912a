/**
 * The least, the greatest and the empty answers that the promises 1 to 38, 43 and 44 name, a
 * sentence each; what they refuse is in RefusalTest.
 */
public final class AnswerTest {
    private static LaundryService shirts(int number) {
        LaundryService s = new LaundryService();
        for (int i = 0; i < number; i++) {
            s.bring(i % 4, false, 1, 128);
        }
        return s;
    }

    /** All sixteen socks are lost: no two of a load have the same colour. */
    private static LaundryService allSixteenLost() {
        LaundryService s = new LaundryService();
        for (int i = 0; i < 16; i++) {
            s.bring(0, true, i % 5 + 1, 0);
        }
        for (int i = 0; i < 16; i++) {
            s.load(i, 0);
            if (i % 5 == 4 || i == 15) {
                s.run(0);
            }
        }
        return s;
    }

    /** Promise 1: "a service without garments, with two machines at 40 degrees." */
    private static void newObject() {
        LaundryService s = new LaundryService();
        Check.same("1 garmentCount", s.garmentCount(), 0);
        Check.same("1 lost", s.lost(), 0);
        Check.same("1 runCount", s.runCount(), 0);
        Check.same("1 undoCount", s.undoCount(), 0);
        Check.same("1 isConsistent", s.isConsistent(), true);
        for (int machine = 0; machine < 2; machine++) {
            Check.same("1 temperature", s.temperature(machine), 40f);
            Check.same("1 temperatureBits", s.temperatureBits(machine), 0x42200000);
            Check.same("1 washableStains", s.washableStains(machine), 15);
            Check.same("1 inMachine", s.inMachine(machine), 0);
            Check.same("1 commonStains", s.commonStains(machine), 255);
            Check.same("1 coloursIn", s.coloursIn(machine), 0);
            Check.same("1 damage", s.damage(machine), 0);
            Check.same("1 damageByMasks", s.damageByMasks(machine), 0);
        }
        for (int client = 0; client < 4; client++) {
            Check.same("1 inBag", s.inBag(client), 0);
            Check.same("1 pairCount", s.pairCount(client), 0);
            Check.same("1 pairCountByParity", s.pairCountByParity(client), 0);
            Check.same("1 paid", s.paid(client), 0f);
            Check.same("1 paidBits", s.paidBits(client), 0);
            Check.same("1 price 0", s.price(0, client), 0f);
            Check.same("1 price 1", s.price(1, client), 0f);
            Check.same("1 spender", s.spender(client), client);
            Check.same("1 writeBag", s.writeBag(client), 0);
        }
        Check.same("1 save", s.save(), 0);
        Check.same("1 feed", s.feed('x'), 1);
    }

    /** Promise 2: "Returns the index of the garment", 0 to 15. */
    private static void bringReturnsTheIndex() {
        LaundryService s = new LaundryService();
        for (int i = 0; i < 16; i++) {
            Check.same("2 index " + i, s.bring(3 - i % 4, i > 7, 7 - i % 8, 255 - i), i);
            Check.same("2 in the bag " + i, s.place(i), 'b');
            Check.same("2 no runs " + i, s.washes(i), 0);
        }
    }

    /** Promise 3: "Returns the number of garments in the machine afterwards", 1 to 5. */
    private static void loadReturnsTheNumber() {
        LaundryService s = shirts(16);
        for (int i = 0; i < 5; i++) {
            Check.same("3 machine 0, number " + (i + 1), s.load(15 - i, 0), i + 1);
            Check.same("3 machine 1, number " + (i + 1), s.load(i, 1), i + 1);
        }
        s.takeOut(15);
        s.takeOut(14);
        Check.same("3 after two are out", s.load(15, 0), 4);
        s.run(1);
        Check.same("3 after a run", s.load(0, 1), 1);
    }

    /** Promise 4: "Returns the machine", "and puts it back into its bag, unwashed." */
    private static void takeOutReturnsTheMachine() {
        for (int machine = 0; machine < 2; machine++) {
            LaundryService s = new LaundryService();
            s.bring(3, true, 0, 255);
            s.bring(2, true, 7, 0);
            s.setTemperature(machine, 180);
            s.load(0, machine);
            s.load(1, machine);
            Check.same("4 machine", s.takeOut(0), machine);
            Check.same("4 in its bag", s.inBag(3), 1);
            Check.same("4 unwashed", s.stains(0), 255);
            Check.same("4 in no run", s.washes(0), 0);
            Check.same("4 not paid", s.paid(3), 0f);
            Check.same("4 no run", s.runCount(), 0);
            Check.same("4 the other one stays", s.inMachine(machine), 2);
            Check.same("4 the last one", s.takeOut(1), machine);
            Check.same("4 not lost", s.lost(), 0);
            Check.same("4 empty", s.inMachine(machine), 0);
        }
    }

    /** Promise 5: "Returns the previous temperature", "twice the temperature, 40 to 180". */
    private static void setTemperatureReturnsThePreviousOne() {
        for (int machine = 0; machine < 2; machine++) {
            LaundryService s = new LaundryService();
            float previous = 40f;
            for (int halves = 40; halves <= 180; halves++) {
                Check.same("5 before " + halves, s.setTemperature(machine, halves), previous);
                previous = halves / 2f;
                Check.same("21 at " + halves, s.temperature(machine), previous);
                Check.same("22 at " + halves, s.temperatureBits(machine), Float.floatToIntBits(previous));
            }
            Check.same("5 the greatest", s.setTemperature(machine, 40), 90f);
            Check.same("5 the least", s.setTemperature(machine, 40), 20f);
            Check.same("5 the other machine", s.temperature(1 - machine), 40f);
        }
    }

    /** Promise 6: "Returns the number of garments that are lost", 0 to 5. */
    private static void runReturnsTheNumberLost() {
        for (int lost = 0; lost <= 5; lost++) {
            LaundryService s = new LaundryService();
            for (int i = 0; i < 5; i++) {
                s.bring(i % 4, i < lost, i + 1, 0);
                s.load(i, 1);
            }
            Check.same("6 number lost", s.run(1), lost);
            Check.same("20 lost", s.lost(), (1 << lost) - 1);
            Check.same("33 one run", s.runCount(), 1);
        }
    }

    /** Promise 7: "Returns the number, 0 to 16", "lost ones included". */
    private static void garmentCountFromZeroToSixteen() {
        LaundryService s = new LaundryService();
        for (int i = 0; i < 16; i++) {
            Check.same("7 before " + i, s.garmentCount(), i);
            s.bring(0, true, 1, 0);
        }
        Check.same("7 sixteen", s.garmentCount(), 16);
        Check.same("7 all lost", allSixteenLost().garmentCount(), 16);
    }

    /** Promise 13: "'b' for its bag, '0' or '1' for a machine, 'x' if it is lost." */
    private static void placeOfEachKind() {
        LaundryService s = new LaundryService();
        s.bring(0, true, 1, 0);
        Check.same("13 bag", s.place(0), 'b');
        s.load(0, 0);
        Check.same("13 machine 0", s.place(0), '0');
        s.takeOut(0);
        Check.same("13 bag again", s.place(0), 'b');
        s.load(0, 1);
        Check.same("13 machine 1", s.place(0), '1');
        s.run(1);
        Check.same("13 lost", s.place(0), 'x');
    }

    /** Promise 14: "how many runs a garment was in": none, some, and the one in which it was lost. */
    private static void washesFromZero() {
        LaundryService s = new LaundryService();
        s.bring(0, true, 1, 0);
        s.bring(0, false, 1, 0);
        s.bring(0, false, 1, 0);
        s.bring(0, false, 1, 0);
        s.load(1, 0);
        s.load(3, 1);
        s.run(0);
        s.load(1, 1);
        s.takeOut(1);
        s.load(0, 0);
        s.load(1, 0);
        s.load(2, 0);
        s.run(0);
        Check.same("14 lost in its only run", s.washes(0), 1);
        Check.same("14 two runs", s.washes(1), 2);
        Check.same("14 one run", s.washes(2), 1);
        Check.same("14 in the other machine", s.washes(3), 0);
    }

    /** Promise 15: "the other sock of the pair", of the first and the last garment too. */
    private static void partnerOfTheFirstAndTheLast() {
        LaundryService s = new LaundryService();
        s.bring(3, true, 0, 0);
        for (int i = 1; i < 15; i++) {
            s.bring(3, false, 0, 0);
        }
        s.bring(3, true, 0, 255);
        Check.same("15 of the first", s.partner(0), 15);
        Check.same("15 of the last", s.partner(15), 0);
    }

    /** Promises 16 and 17: "Returns the number of pairs": 0 to 8. */
    private static void pairsFromZeroToEight() {
        for (int colours = 1; colours <= 8; colours++) {
            LaundryService s = new LaundryService();
            int[] socks = new int[8];
            for (int i = 0; i < 16; i++) {
                s.bring(1, true, i * i % colours, 0);
                socks[i * i % colours]++;
                int due = 0;
                for (int number : socks) {
                    due += number / 2;
                }
                Check.same("16 pairs of " + (i + 1) + " socks", s.pairCount(1), due);
                Check.same("17 pairs of " + (i + 1) + " socks", s.pairCountByParity(1), due);
            }
        }
        LaundryService s = new LaundryService();
        for (int i = 0; i < 16; i++) {
            s.bring(1, true, i / 2, 0);
        }
        Check.same("16 eight pairs", s.pairCount(1), 8);
        Check.same("17 eight pairs", s.pairCountByParity(1), 8);
    }

    /** Promise 17: "a bit mask of the colours of which there is an odd number": all eight of them. */
    private static void pairsOfOddColours() {
        LaundryService s = new LaundryService();
        for (int i = 0; i < 8; i++) {
            s.bring(0, true, i, 0);
            Check.same("16 single socks " + i, s.pairCount(0), 0);
            Check.same("17 single socks " + i, s.pairCountByParity(0), 0);
        }
        for (int i = 0; i < 8; i++) {
            s.bring(0, true, 7 - i, 0);
            Check.same("16 paired socks " + i, s.pairCount(0), i + 1);
            Check.same("17 paired socks " + i, s.pairCountByParity(0), i + 1);
        }
    }

    /** Promise 18: "a bit mask in which bit k stands for the garment k": none, each, all sixteen. */
    private static void inBagOfNoneAndAll() {
        LaundryService s = new LaundryService();
        for (int i = 0; i < 16; i++) {
            Check.same("18 before " + i, s.inBag(2), (1 << i) - 1);
            s.bring(2, false, 1, 0);
        }
        Check.same("18 all", s.inBag(2), 65535);
        s.load(15, 0);
        s.load(0, 1);
        Check.same("18 without the first and the last", s.inBag(2), 32766);
        Check.same("18 nothing of another client", s.inBag(1), 0);
        Check.same("18 all lost", allSixteenLost().inBag(0), 0);
    }

    /** Promise 19: "a bit mask in which bit k stands for the garment k": none, each, five. */
    private static void inMachineOfNoneAndEach() {
        LaundryService s = shirts(16);
        for (int i = 0; i < 16; i++) {
            s.load(i, i % 2);
            Check.same("19 garment " + i, s.inMachine(i % 2), 1 << i);
            Check.same("19 the other machine " + i, s.inMachine(1 - i % 2), 0);
            s.takeOut(i);
        }
        for (int i = 11; i < 16; i++) {
            s.load(i, 1);
        }
        Check.same("19 the five last", s.inMachine(1), 0b1111100000000000);
    }

    /** Promise 20: "Returns the lost garments": none, some, all sixteen. */
    private static void lostOfNoneAndAll() {
        LaundryService s = new LaundryService();
        Check.same("20 no garments", s.lost(), 0);
        s.bring(0, false, 1, 0);
        s.load(0, 0);
        s.run(0);
        Check.same("20 no sock", s.lost(), 0);
        Check.same("20 all", allSixteenLost().lost(), 65535);
    }

    /** Promise 23: "the stains that a machine removes at its temperature": none to all. */
    private static void washableFromNoneToAll() {
        LaundryService s = new LaundryService();
        for (int halves = 40; halves <= 180; halves++) {
            int due = halves < 50 ? 0 : halves < 120 ? (2 << (halves - 50) / 10) - 1 : 255;
            s.setTemperature(1, halves);
            Check.same("23 at " + halves, s.washableStains(1), due);
        }
        Check.same("23 the other machine", s.washableStains(0), 15);
    }

    /** Promise 24: "255 if the machine is empty", at first, after takeOut and after a run. */
    private static void commonStainsOfAnEmptyMachine() {
        for (int machine = 0; machine < 2; machine++) {
            LaundryService s = new LaundryService();
            s.bring(0, false, 1, 0);
            s.bring(0, false, 1, 255);
            s.bring(0, false, 1, 129);
            Check.same("24 empty", s.commonStains(machine), 255);
            s.load(1, machine);
            Check.same("24 all stains", s.commonStains(machine), 255);
            s.load(2, machine);
            Check.same("24 two stains", s.commonStains(machine), 129);
            s.load(0, machine);
            Check.same("24 no stains", s.commonStains(machine), 0);
            Check.same("24 the other machine", s.commonStains(1 - machine), 255);
            s.takeOut(0);
            Check.same("24 two stains again", s.commonStains(machine), 129);
            s.takeOut(1);
            s.takeOut(2);
            Check.same("24 empty again", s.commonStains(machine), 255);
            s.load(0, machine);
            s.run(machine);
            Check.same("24 empty after a run", s.commonStains(machine), 255);
        }
    }

    /** Promise 25: "a bit mask in which bit k stands for the colour k": none, the ends, five. */
    private static void coloursOfAnEmptyMachine() {
        LaundryService s = new LaundryService();
        int[] colours = {7, 0, 0, 7, 3};
        int[] due = {128, 129, 129, 129, 137};
        for (int i = 0; i < 5; i++) {
            s.bring(0, false, colours[i], 0);
        }
        Check.same("25 empty", s.coloursIn(1), 0);
        for (int i = 0; i < 5; i++) {
            s.load(i, 1);
            Check.same("25 number " + (i + 1), s.coloursIn(1), due[i]);
        }
        s.run(1);
        Check.same("25 empty after a run", s.coloursIn(1), 0);
    }

    /** Promises 26 and 27: "Returns the damage, 0 if the machine is empty", at each temperature. */
    private static void damageOfAnEmptyMachine() {
        for (int machine = 0; machine < 2; machine++) {
            LaundryService s = new LaundryService();
            s.bring(0, true, 0, 255);
            s.bring(0, true, 1, 255);
            s.load(0, 1 - machine);
            int[] halves = {40, 80, 119, 120, 180};
            for (int one : halves) {
                s.setTemperature(machine, one);
                Check.same("26 empty at " + one, s.damage(machine), 0);
                Check.same("27 empty at " + one, s.damageByMasks(machine), 0);
            }
            s.load(1, machine);
            s.takeOut(1);
            Check.same("26 empty again", s.damage(machine), 0);
            Check.same("27 empty again", s.damageByMasks(machine), 0);
        }
    }

    /** Promise 26: "found by washing a copy": the load itself is not washed. */
    private static void damageWashesACopy() {
        LaundryService s = new LaundryService();
        s.bring(0, true, 0, 255);
        s.bring(1, true, 7, 0);
        s.bring(2, false, 7, 1);
        for (int i = 0; i < 3; i++) {
            s.load(i, 0);
        }
        s.setTemperature(0, 130);
        String before = Look.all(s);
        Check.same("26 a stain and a lost sock", s.damage(0), 13);
        Check.same("27 a stain and a lost sock", s.damageByMasks(0), 13);
        Check.same("26 again", s.damage(0), 13);
        Check.same("28 the best one", s.bestTemperature(0), 110);
        Check.same("38 consistent", s.isConsistent(), true);
        Check.same("26 nothing is washed", Look.all(s), before);
    }

    private static int best(int machine, int halves, int stains, int colour, boolean sock) {
        LaundryService s = new LaundryService();
        s.bring(0, sock, colour, stains);
        s.load(0, machine);
        s.setTemperature(machine, halves);
        return s.bestTemperature(machine);
    }

    /** Promise 28: "of several such temperatures, the lowest", whatever the machine's own is. */
    private static void bestTemperatureIsTheLowest() {
        int[] own = {40, 49, 50, 119, 120, 180};
        for (int halves : own) {
            for (int machine = 0; machine < 2; machine++) {
                Check.same("28 all are as good", best(machine, halves, 0, 1, false), 40);
                Check.same("28 all lose it", best(machine, halves, 0, 1, true), 40);
                for (int k = 0; k < 8; k++) {
                    Check.same("28 the stain " + k, best(machine, halves, 1 << k, 1, false), 50 + 10 * k);
                    Check.same("28 the last stain " + k, best(machine, halves, (2 << k) - 1, 1, false), 50 + 10 * k);
                }
                Check.same("28 the stain 7 of colour 0", best(machine, halves, 128, 0, false), 40);
                Check.same("28 the stain 6 of colour 0", best(machine, halves, 64, 0, false), 110);
                Check.same("28 a stain keeps the sock", best(machine, halves, 128, 1, true), 40);
                Check.same("28 colour keeps the sock", best(machine, halves, 0, 0, true), 120);
            }
        }
    }

    /** Promise 29: "Returns the price, 0 if no garment of the client is in the machine." */
    private static void priceOfNoGarment() {
        LaundryService s = shirts(8);
        s.load(1, 0);
        s.load(6, 1);
        for (int client = 0; client < 4; client++) {
            Check.same("29 machine 0, client " + client, s.price(0, client), client == 1 ? 6.25f : 0f);
            Check.same("29 machine 1, client " + client, s.price(1, client), client == 2 ? 6.25f : 0f);
        }
        s.takeOut(1);
        Check.same("29 none in the machine again", s.price(0, 1), 0f);
    }

    /** Promise 29: "what a run of a machine would cost a client now": it is what is paid. */
    private static void priceIsWhatIsPaid() {
        for (int halves = 40; halves <= 180; halves += 35) {
            LaundryService s = shirts(8);
            s.setTemperature(1, halves);
            int[] load = {0, 4, 1, 2, 6};
            for (int garment : load) {
                s.load(garment, 1);
            }
            for (int client = 0; client < 4; client++) {
                float price = s.price(1, client);
                Check.same("30 nothing yet", s.paid(client), 0f);
                s.run(1);
                Check.same("30 client " + client + " at " + halves, s.paid(client), price);
                Check.same("31 client " + client + " at " + halves, s.paidBits(client), Float.floatToIntBits(price));
                s.undo();
            }
        }
    }

    /** Promise 31: the bits of each sum of up to 100 runs, from 0 on. */
    private static void paidBitsFromZero() {
        LaundryService s = shirts(1);
        float sum = 0f;
        for (int run = 0; run < 100; run++) {
            Check.same("31 after " + run + " runs", s.paidBits(0), Float.floatToIntBits(sum));
            s.setTemperature(0, 40 + run);
            s.load(0, 0);
            s.run(0);
            sum += 1.25f + (40 + run) / 2f * 0.125f;
        }
        Check.same("30 after 100 runs", s.paid(0), sum);
    }

    /** Promise 32: each field alone, at its greatest. */
    private static void packedFields() {
        LaundryService s = new LaundryService();
        s.bring(0, false, 0, 255);
        s.bring(0, false, 7, 0);
        s.bring(3, false, 0, 0);
        s.bring(0, true, 0, 0);
        s.bring(0, false, 0, 0);
        Check.same("32 stains", s.packed(0), 255L);
        Check.same("32 colour", s.packed(1), 7L << 8);
        Check.same("32 client", s.packed(2), 3L << 11);
        Check.same("32 sock", s.packed(3), 1L << 13);
        Check.same("32 nothing", s.packed(4), 0L);
        s.load(4, 0);
        Check.same("32 machine 0", s.packed(4), 1L << 14);
        s.takeOut(4);
        s.load(4, 1);
        Check.same("32 machine 1", s.packed(4), 2L << 14);
        s.load(3, 0);
        s.run(0);
        Check.same("32 lost", s.packed(3), 1L << 13 | 3L << 14 | 1L << 16);
        s.run(1);
        Check.same("32 one run", s.packed(4), 1L << 16);
    }

    /** Promise 33: "the number of runs so far": none, both machines, and those of texts. */
    private static void runCountFromZero() {
        LaundryService s = shirts(2);
        Check.same("33 none", s.runCount(), 0);
        s.load(0, 0);
        s.run(0);
        s.load(0, 1);
        s.run(1);
        Check.same("33 two", s.runCount(), 2);
        Check.commands(s, "load 0 0;load 1 1;run 0;run 1");
        Check.same("33 four", s.runCount(), 4);
        Check.badState("6 empty", () -> s.run(0));
        Check.same("33 a refused run is none", s.runCount(), 4);
        s.undo();
        Check.same("33 undone", s.runCount(), 2);
    }

    /** Promise 34: "by the number of stains in descending order, then by index in ascending order." */
    private static void dirtiestOfSixteen() {
        int[] stains = {0, 128, 3, 255, 1, 254, 24, 0, 127, 64, 255, 129, 7, 15, 31, 63};
        int[] due = {3, 10, 5, 8, 15, 14, 13, 12, 2, 6, 11, 1, 4, 9, 0, 7};
        LaundryService s = new LaundryService();
        for (int i = 0; i < 16; i++) {
            s.bring(i % 4, i % 2 == 0, i % 8, stains[i]);
        }
        for (int rank = 0; rank < 16; rank++) {
            Check.same("34 rank " + rank, s.dirtiest(rank), due[rank]);
        }
        s.load(0, 0);
        s.run(0);
        for (int rank = 0; rank < 15; rank++) {
            Check.same("34 rank " + rank + " without the lost one", s.dirtiest(rank), due[rank < 14 ? rank : 15]);
        }
        Check.noElement("34 rank 15 without the lost one", () -> s.dirtiest(15));
    }

    /** Promise 34: garments of equal stains keep the order of their indices. */
    private static void dirtiestOfEquals() {
        LaundryService s = shirts(16);
        for (int rank = 0; rank < 16; rank++) {
            Check.same("34 of equals, rank " + rank, s.dirtiest(rank), rank);
        }
    }

    /** Promise 35: "by what they paid in descending order, then by number in ascending order." */
    private static void spenders() {
        int[][] payers = {{}, {0}, {1}, {2}, {3}, {3, 3, 1}, {2, 2, 2, 1, 0}, {1, 2}, {0, 3}, {3, 2, 1, 0}};
        int[][] due = {{0, 1, 2, 3}, {0, 1, 2, 3}, {1, 0, 2, 3}, {2, 0, 1, 3}, {3, 0, 1, 2}, {3, 1, 0, 2},
            {2, 0, 1, 3}, {1, 2, 0, 3}, {0, 3, 1, 2}, {0, 1, 2, 3}};
        for (int i = 0; i < payers.length; i++) {
            LaundryService s = new LaundryService();
            for (int client : payers[i]) {
                s.load(s.bring(client, false, 1, 0), 0);
            }
            if (payers[i].length > 0) {
                s.run(0);
            }
            for (int rank = 0; rank < 4; rank++) {
                Check.same("35 rank " + rank + " of " + i, s.spender(rank), due[i][rank]);
            }
        }
    }

    /** Promise 35: sums that differ in their last bit only are not equal. */
    private static void spendersByTheLastBit() {
        LaundryService s = shirts(3);
        for (int run = 0; run < 60; run++) {
            s.setTemperature(0, 41 + 3 * (run % 40));
            s.load(0, 0);
            s.load(1, 0);
            s.load(2, 0);
            s.run(0);
        }
        Check.same("35 all paid the same", s.paidBits(2), s.paidBits(0));
        Check.same("35 the first of equals", s.spender(0), 0);
        Check.same("35 the last one paid nothing", s.spender(3), 3);
        s.load(1, 0);
        s.run(0);
        Check.same("35 one paid more", s.spender(0), 1);
        Check.same("35 then the others", s.spender(1), 0);
    }

    /** Promise 36: "the sum converted to double, divided by their number converted to double." */
    private static void meanStains() {
        LaundryService s = new LaundryService();
        s.bring(0, true, 1, 0);
        Check.same("36 no stains", s.meanStains(), 0.0);
        s.bring(0, true, 2, 255);
        Check.same("36 half", s.meanStains(), 4.0);
        s.bring(0, true, 3, 3);
        Check.same("36 a third", s.meanStains(), 10.0 / 3.0);
        s.load(0, 0);
        s.run(0);
        Check.same("36 the lost one does not count", s.meanStains(), 5.0);
        s.load(1, 1);
        Check.same("36 one in a machine counts", s.meanStains(), 5.0);
        LaundryService full = new LaundryService();
        for (int i = 0; i < 16; i++) {
            full.bring(0, false, 1, 255);
        }
        Check.same("36 the greatest", full.meanStains(), 8.0);
    }

    /** Promise 37: "the share of lost garments among all garments": none, each, all. */
    private static void lostShare() {
        LaundryService s = new LaundryService();
        s.bring(0, true, 1, 0);
        Check.same("37 none is lost", s.lostShare(), 0f);
        s.load(0, 0);
        s.run(0);
        for (int count = 1; count <= 16; count++) {
            Check.same("37 one of " + count, s.lostShare(), 1f / count);
            if (count < 16) {
                s.bring(0, true, count % 7 + 1, 0);
            }
        }
        for (int lost = 2; lost <= 16; lost++) {
            s.load(lost - 1, 1);
            s.run(1);
            Check.same("37 " + lost + " of 16", s.lostShare(), lost / 16f);
        }
    }

    /** Promise 38: "Returns true if all of this holds": full machines, full bags, at each step. */
    private static void isConsistent() {
        int[] halves = {40, 50, 119, 120, 180};
        for (int one : halves) {
            LaundryService s = new LaundryService();
            for (int i = 0; i < 16; i++) {
                s.bring(i / 8, i % 3 > 0, i * 5 % 8, i * 37 % 256);
                Check.same("38 garment " + i, s.isConsistent(), true);
            }
            s.setTemperature(0, one);
            s.setTemperature(1, 220 - one);
            for (int i = 0; i < 10; i++) {
                s.load(i, i % 2);
                Check.same("38 load " + i, s.isConsistent(), true);
            }
            s.run(0);
            Check.same("38 run 0", s.isConsistent(), true);
            s.run(1);
            Check.same("38 run 1", s.isConsistent(), true);
        }
    }

    private static void written(LaundryService s, int client, String due) {
        Check.same("43 length of " + due, s.writeBag(client), due.length());
        Check.same("43 text of " + due, Look.output(s), due);
    }

    /** Promise 43: a bag of none, of one, and "with a blank between two garments." */
    private static void writeBag() {
        LaundryService s = new LaundryService();
        written(s, 0, "");
        s.bring(0, true, 3, 0);
        written(s, 0, "s3");
        s.bring(0, false, 0, 0);
        written(s, 0, "s3 g0");
        s.bring(0, false, 7, 255);
        written(s, 0, "s3 g0 g7********");
        s.bring(1, true, 0, 128);
        written(s, 1, "s0*");
        written(s, 2, "");
        s.load(0, 0);
        written(s, 0, "g0 g7********");
        s.run(0);
        written(s, 0, "g0 g7********");
        s.load(2, 1);
        written(s, 0, "g0");
        LaundryService example = new LaundryService();
        example.bring(2, true, 3, 5);
        example.bring(2, false, 0, 0);
        written(example, 2, "s3** g0");
    }

    /** Promise 43: "Replaces the output", the fullest by a shorter one and by none. */
    private static void writeBagReplacesTheOutput() {
        LaundryService s = new LaundryService();
        StringBuilder due = new StringBuilder();
        for (int i = 0; i < 15; i++) {
            s.bring(3, true, i % 8, 255);
            due.append(i == 0 ? "s" : " s").append(i % 8).append("********");
        }
        s.bring(2, false, 5, 1);
        written(s, 3, due.toString());
        written(s, 2, "g5*");
        Check.noIndex("44 nothing is left of the longer one", () -> s.outputChar(3));
        written(s, 0, "");
    }

    /** Promise 44: "index of a character of the output": the first and the last. */
    private static void outputChar() {
        LaundryService s = new LaundryService();
        Check.noIndex("44 initially empty", () -> s.outputChar(0));
        s.bring(0, true, 3, 1);
        s.writeBag(0);
        Check.same("44 the first", s.outputChar(0), 's');
        Check.same("44 the last", s.outputChar(2), '*');
        Check.noIndex("44 behind the last", () -> s.outputChar(3));
        Check.noIndex("44 before the first", () -> s.outputChar(-1));
        s.bring(0, true, 3, 1);
        s.load(0, 1);
        s.run(1);
        Check.same("44 stays until the next writeBag", Look.output(s), "s3*");
    }

    public static void main(String[] args) {
        newObject();
        bringReturnsTheIndex();
        loadReturnsTheNumber();
        takeOutReturnsTheMachine();
        setTemperatureReturnsThePreviousOne();
        runReturnsTheNumberLost();
        garmentCountFromZeroToSixteen();
        placeOfEachKind();
        washesFromZero();
        partnerOfTheFirstAndTheLast();
        pairsFromZeroToEight();
        pairsOfOddColours();
        inBagOfNoneAndAll();
        inMachineOfNoneAndEach();
        lostOfNoneAndAll();
        washableFromNoneToAll();
        commonStainsOfAnEmptyMachine();
        coloursOfAnEmptyMachine();
        damageOfAnEmptyMachine();
        damageWashesACopy();
        bestTemperatureIsTheLowest();
        priceOfNoGarment();
        priceIsWhatIsPaid();
        paidBitsFromZero();
        packedFields();
        runCountFromZero();
        dirtiestOfSixteen();
        dirtiestOfEquals();
        spenders();
        spendersByTheLastBit();
        meanStains();
        lostShare();
        isConsistent();
        writeBag();
        writeBagReplacesTheOutput();
        outputChar();
        Check.end();
    }
}
