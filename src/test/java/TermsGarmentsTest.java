/**
 * The boundaries that the document's "Terms" name under Garments, Pairs, Machines and Details, a
 * sentence each.
 */
public final class TermsGarmentsTest {
    /** A shirt that was washed 255 times at 40 degrees, after 511 calls. */
    private static LaundryService after511Calls() {
        LaundryService s = new LaundryService();
        s.bring(1, false, 7, 255);
        for (int wash = 0; wash < 255; wash++) {
            s.load(0, 1);
            s.run(1);
        }
        return s;
    }

    /** "An object is used for at most 512 calls after it has been made." */
    private static void the512thCall() {
        Check.same("Terms 512th call packed", after511Calls().packed(0), 240L | 7L << 8 | 1L << 11 | 255L << 16);
        Check.same("Terms 512th call washes", after511Calls().washes(0), 255);
        Check.same("Terms 512th call runCount", after511Calls().runCount(), 255);
        Check.same("Terms 512th call paid", after511Calls().paid(1), 1593.75f);
        Check.same("Terms 512th call paidBits", after511Calls().paidBits(1), Float.floatToIntBits(1593.75f));
        Check.same("Terms 512th call undoCount", after511Calls().undoCount(), 8);
        Check.same("Terms 512th call undo", after511Calls().undo(), 7);
        Check.same("Terms 512th call load", after511Calls().load(0, 0), 1);
        Check.same("Terms 512th call bring", after511Calls().bring(0, true, 0, 0), 1);
        Check.badState("Terms 512th call refused", () -> after511Calls().run(1));
    }

    /** "At most 16 garments are in the service." */
    private static void atMostSixteenGarments() {
        LaundryService s = new LaundryService();
        for (int i = 0; i < 16; i++) {
            Check.same("Terms bring " + i, s.bring(i % 4, i % 2 == 0, i % 8, 240 + i), i);
        }
        Check.badState("Terms the seventeenth", () -> s.bring(0, true, 0, 0));
        Check.same("Terms sixteen stay", s.garmentCount(), 16);
        for (int i = 0; i < 16; i++) {
            long due = 240 + i | i % 8 << 8 | i % 4 << 11 | (i + 1) % 2 << 13;
            Check.same("Terms garment " + i, s.packed(i), due);
        }
        s.undo();
        Check.same("Terms there is room again", s.bring(0, true, 0, 0), 15);
        Check.badState("Terms the seventeenth again", () -> s.bring(0, true, 0, 0));
    }

    /** "Lost garments count towards the limit of 16 garments." */
    private static void lostGarmentsCountTowardsTheLimit() {
        LaundryService s = new LaundryService();
        s.bring(0, true, 1, 0);
        s.load(0, 0);
        s.run(0);
        Check.same("Terms one is lost", s.lost(), 1);
        for (int i = 1; i < 16; i++) {
            Check.same("Terms bring after a loss " + i, s.bring(0, true, 1, 0), i);
        }
        Check.badState("Terms the seventeenth with a lost one", () -> s.bring(0, true, 1, 0));
        Check.feed(s, "shirt 0 0 0");
        Check.unsupported("Terms the seventeenth by a text", () -> s.runCommands());
        Check.same("Terms sixteen with a lost one", s.garmentCount(), 16);
    }

    /** "Their indices start at 0, follow the order in which they were brought, and never change." */
    private static void indicesNeverChange() {
        LaundryService s = new LaundryService();
        Check.same("Terms the first index", s.bring(3, true, 5, 0), 0);
        Check.same("Terms the second index", s.bring(2, false, 4, 16), 1);
        s.load(0, 0);
        s.run(0);
        s.load(1, 1);
        Check.same("Terms an index after a loss", s.bring(1, true, 3, 32), 2);
        Check.same("Terms a text", Check.commands(s, "sock 0 2 64;run 1"), 2);
        Check.same("Terms an index after a text", s.bring(0, false, 1, 128), 4);
        int[] clients = {3, 2, 1, 0, 0};
        for (int i = 0; i < 5; i++) {
            Check.same("Terms client of " + i, s.client(i), clients[i]);
            Check.same("Terms colour of " + i, s.colour(i), 5 - i);
            Check.same("Terms stains of " + i, s.stains(i), i == 0 ? 0 : 8 << i);
        }
    }

    /** "A garment belongs to one of the clients 0 to 3." */
    private static void clientsFromZeroToThree() {
        LaundryService s = new LaundryService();
        for (int client = 0; client < 4; client++) {
            s.bring(client, true, 1, 0);
        }
        for (int client = 0; client < 4; client++) {
            Check.same("Terms client " + client, s.client(client), client);
            Check.same("Terms bag of client " + client, s.inBag(client), 1 << client);
        }
        Check.noIndex("Terms client 4", () -> s.bring(4, true, 1, 0));
        Check.noIndex("Terms client -1", () -> s.bring(-1, true, 1, 0));
    }

    /** "It has a colour from 0 to 7." */
    private static void coloursFromZeroToSeven() {
        LaundryService s = new LaundryService();
        for (int colour = 0; colour < 8; colour++) {
            s.bring(0, false, colour, 0);
        }
        for (int colour = 0; colour < 8; colour++) {
            Check.same("Terms colour " + colour, s.colour(colour), colour);
            s.load(colour, 0);
            Check.same("Terms coloursIn " + colour, s.coloursIn(0), 1 << colour);
            s.takeOut(colour);
        }
        Check.badArgument("Terms colour 8", () -> s.bring(0, true, 8, 0));
        Check.badArgument("Terms colour -1", () -> s.bring(0, true, -1, 0));
    }

    /** "A set of stains is a bit mask from 0 to 255, in which bit k stands for the stain k." */
    private static void stainsFromZeroTo255() {
        for (int first = 0; first < 256; first += 16) {
            LaundryService s = new LaundryService();
            for (int i = 0; i < 16; i++) {
                s.bring(0, false, 1, first + i);
            }
            for (int i = 0; i < 16; i++) {
                int count = 0;
                for (int k = 0; k < 8; k++) {
                    count += (first + i) / (1 << k) % 2;
                }
                Check.same("Terms stains " + (first + i), s.stains(i), first + i);
                Check.same("Terms stainCount " + (first + i), s.stainCount(i), count);
                Check.same("Terms packed " + (first + i), s.packed(i) % 256, first + i + 0L);
            }
            Check.badArgument("Terms stains 256", () -> s.bring(0, false, 1, 256));
            Check.badArgument("Terms stains -1", () -> s.bring(0, false, 1, -1));
        }
    }

    /** "... and a place: in the bag of its client, in one of the machines 0 and 1, or lost." */
    private static void onePlaceEach() {
        LaundryService s = new LaundryService();
        for (int client = 0; client < 4; client++) {
            s.bring(client, true, client, 0);
        }
        s.load(3, 1);
        s.run(1);
        s.load(1, 0);
        s.load(2, 1);
        Check.same("Terms bag 0", s.inBag(0), 1);
        Check.same("Terms bag 1", s.inBag(1), 0);
        Check.same("Terms bag 2", s.inBag(2), 0);
        Check.same("Terms bag 3", s.inBag(3), 0);
        Check.same("Terms machine 0", s.inMachine(0), 2);
        Check.same("Terms machine 1", s.inMachine(1), 4);
        Check.same("Terms lost", s.lost(), 8);
        Check.noIndex("Terms machine -1 is not the bag", () -> s.inMachine(-1));
        Check.noIndex("Terms machine 2 is not the lost ones", () -> s.inMachine(2));
        Check.noIndex("Terms nothing is loaded into machine 2", () -> s.load(0, 2));
        Check.same("Terms the bag stays", s.inBag(0), 1);
    }

    private static void noPair(String what, LaundryService s, int sock) {
        Check.noElement("Terms no partner: " + what, () -> s.partner(sock));
        for (int client = 0; client < 4; client++) {
            Check.same("Terms no pair: " + what, s.pairCount(client), 0);
            Check.same("Terms no pair by parity: " + what, s.pairCountByParity(client), 0);
        }
    }

    /** "Two socks are a pair if they ... the same client, ... the same colour, and are both in the bag." */
    private static void whatIsNoPair() {
        for (int other = 1; other < 4; other++) {
            LaundryService s = new LaundryService();
            s.bring(0, true, 3, 0);
            s.bring(other, true, 3, 0);
            noPair("client " + other, s, 0);
        }
        for (int other = 0; other < 8; other++) {
            LaundryService s = new LaundryService();
            s.bring(0, true, 3, 0);
            s.bring(0, other != 3, other, 0);
            noPair("colour " + other + ", or no sock", s, 0);
        }
        for (int loaded = 0; loaded < 2; loaded++) {
            for (int machine = 0; machine < 2; machine++) {
                LaundryService s = new LaundryService();
                s.bring(0, true, 3, 255);
                s.bring(0, true, 3, 255);
                s.load(loaded, machine);
                noPair("the other one is in a machine", s, 1 - loaded);
                noPair("it is in a machine", s, loaded);
                s.load(1 - loaded, machine);
                noPair("both are in a machine", s, loaded);
                s.run(machine);
                Check.same("Terms both are back", s.partner(loaded), 1 - loaded);
                Check.same("Terms one pair is back", s.pairCount(0), 1);
            }
        }
    }

    /** "... the first with the second, the third with the fourth, and so on." */
    private static void pairsInTheOrderOfTheIndices() {
        LaundryService s = new LaundryService();
        for (int count = 1; count <= 16; count++) {
            int last = s.bring(2, true, 6, count);
            Check.same("Terms pairs of " + count, s.pairCount(2), count / 2);
            Check.same("Terms pairs by parity of " + count, s.pairCountByParity(2), count / 2);
            if (count % 2 == 1) {
                Check.noElement("Terms the last of " + count, () -> s.partner(last));
            }
        }
        for (int sock = 0; sock < 16; sock++) {
            Check.same("Terms partner of " + sock, s.partner(sock), sock % 2 == 0 ? sock + 1 : sock - 1);
        }
        s.load(0, 0);
        for (int sock = 1; sock < 15; sock++) {
            Check.same("Terms partner without the first " + sock, s.partner(sock), sock % 2 == 1 ? sock + 1 : sock - 1);
        }
        Check.noElement("Terms the last has none", () -> s.partner(15));
        Check.same("Terms seven pairs", s.pairCount(2), 7);
    }

    /** "In each bag, socks of the same colour are paired ...": other garments stand between them. */
    private static void pairsOverOthers() {
        LaundryService s = new LaundryService();
        s.bring(0, true, 1, 0);
        s.bring(0, false, 1, 0);
        s.bring(0, true, 2, 0);
        s.bring(1, true, 1, 0);
        s.bring(0, true, 1, 0);
        s.bring(0, true, 2, 0);
        s.bring(0, true, 1, 0);
        Check.same("Terms the first of colour 1", s.partner(0), 4);
        Check.same("Terms the second of colour 1", s.partner(4), 0);
        Check.same("Terms the first of colour 2", s.partner(2), 5);
        Check.same("Terms the second of colour 2", s.partner(5), 2);
        Check.noElement("Terms the third of colour 1", () -> s.partner(6));
        Check.noElement("Terms the only one in its bag", () -> s.partner(3));
        Check.same("Terms two pairs", s.pairCount(0), 2);
        Check.same("Terms two pairs by parity", s.pairCountByParity(0), 2);
        Check.same("Terms no pair in the other bag", s.pairCount(1), 0);
        Check.same("Terms no pair in the other bag by parity", s.pairCountByParity(1), 0);
    }

    /** "A machine holds at most 5 garments." */
    private static void atMostFiveGarments() {
        for (int machine = 0; machine < 2; machine++) {
            int full = machine;
            LaundryService s = new LaundryService();
            for (int i = 0; i < 12; i++) {
                s.bring(i % 4, false, 1, 128);
            }
            for (int i = 0; i < 5; i++) {
                Check.same("Terms load " + i, s.load(11 - i, full), i + 1);
            }
            Check.badState("Terms the sixth", () -> s.load(0, full));
            Check.same("Terms the sixth stays in its bag", s.place(0), 'b');
            Check.same("Terms five", s.inMachine(full), 0b111110000000);
            Check.same("Terms the other machine has room", s.load(0, 1 - full), 1);
            s.takeOut(9);
            Check.same("Terms room after one is out", s.load(1, full), 5);
            Check.badState("Terms the sixth again", () -> s.load(2, full));
            s.run(full);
            Check.same("Terms room after a run", s.load(2, full), 1);
        }
    }

    /** "It has a temperature, a float that is a multiple of 0.5 from 20 to 90, initially 40." */
    private static void temperaturesFromTwentyToNinety() {
        for (int machine = 0; machine < 2; machine++) {
            int one = machine;
            LaundryService s = new LaundryService();
            Check.same("Terms initially", s.temperature(one), 40f);
            s.setTemperature(one, 40);
            Check.same("Terms the lowest", s.temperature(one), 20f);
            Check.badArgument("Terms lower", () -> s.setTemperature(one, 39));
            Check.same("Terms still the lowest", s.temperature(one), 20f);
            s.setTemperature(one, 41);
            Check.same("Terms a half more", s.temperature(one), 20.5f);
            s.setTemperature(one, 179);
            Check.same("Terms a half less", s.temperature(one), 89.5f);
            s.setTemperature(one, 180);
            Check.same("Terms the highest", s.temperature(one), 90f);
            Check.badArgument("Terms higher", () -> s.setTemperature(one, 181));
            Check.same("Terms still the highest", s.temperature(one), 90f);
            Check.same("Terms the other machine", s.temperature(1 - one), 40f);
        }
    }

    /** "A garment that is put into a machine leaves its bag." */
    private static void loadedGarmentsLeaveTheirBag() {
        LaundryService s = new LaundryService();
        for (int i = 0; i < 5; i++) {
            s.bring(3, true, 2, 1);
        }
        for (int i = 0; i < 5; i++) {
            s.load(i, i % 2);
            Check.same("Terms bag without " + i, s.inBag(3), 31 & -2 << i);
            Check.same("Terms place of " + i, s.place(i), (char) ('0' + i % 2));
        }
        Check.same("Terms nothing is left to write", s.writeBag(3), 0);
    }

    public static void main(String[] args) {
        the512thCall();
        atMostSixteenGarments();
        lostGarmentsCountTowardsTheLimit();
        indicesNeverChange();
        clientsFromZeroToThree();
        coloursFromZeroToSeven();
        stainsFromZeroTo255();
        onePlaceEach();
        whatIsNoPair();
        pairsInTheOrderOfTheIndices();
        pairsOverOthers();
        atMostFiveGarments();
        temperaturesFromTwentyToNinety();
        loadedGarmentsLeaveTheirBag();
        Check.end();
    }
}
