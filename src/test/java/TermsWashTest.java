/** The boundaries that the document's "Terms" name under Washing, Damage, Price and Details. */
public final class TermsWashTest {
    /** Shirts and socks of one client in the machine 0; a negative colour c is a sock's colour -c - 1. */
    private static LaundryService loaded(int halves, int stains, int... colours) {
        LaundryService s = new LaundryService();
        s.setTemperature(0, halves);
        for (int i = 0; i < colours.length; i++) {
            boolean sock = colours[i] < 0;
            s.bring(i % 4, sock, sock ? -colours[i] - 1 : colours[i], stains);
            s.load(i, 0);
        }
        return s;
    }

    private static int sock(int colour) {
        return -colour - 1;
    }

    private static void damage(String what, LaundryService s, int due) {
        Check.same("Terms damage: " + what, s.damage(0), due);
        Check.same("Terms damageByMasks: " + what, s.damageByMasks(0), due);
    }

    private static void runAndLose(String what, LaundryService s, int due) {
        damage(what, s, 10 * Integer.bitCount(due));
        Check.same("Terms number lost: " + what, s.run(0), Integer.bitCount(due));
        Check.same("Terms lost: " + what, s.lost(), due);
    }

    /** "... the stain k leaves a garment if the temperature is at least 25 plus 5 times k." */
    private static void stainsLeave() {
        int[] due = {254, 252, 248, 240, 224, 192, 128, 0};
        for (int k = 0; k < 8; k++) {
            LaundryService at = loaded(50 + 10 * k, 255, 1);
            at.run(0);
            Check.same("Terms at " + (25 + 5 * k) + " degrees", at.stains(0), due[k]);
            LaundryService below = loaded(49 + 10 * k, 255, 1);
            below.run(0);
            Check.same("Terms just below " + (25 + 5 * k) + " degrees", below.stains(0), k == 0 ? 255 : due[k - 1]);
        }
        LaundryService coldest = loaded(40, 255, 1);
        coldest.run(0);
        Check.same("Terms nothing leaves at 20 degrees", coldest.stains(0), 255);
        LaundryService hottest = loaded(180, 255, 1);
        hottest.run(0);
        Check.same("Terms all leave at 90 degrees", hottest.stains(0), 0);
    }

    /** "Then colours run if the temperature is at least 60 ..." */
    private static void coloursRunFromSixty() {
        int[] halves = {40, 119, 120, 121, 180};
        int[] due = {0, 0, 8, 8, 8};
        for (int i = 0; i < halves.length; i++) {
            LaundryService s = loaded(halves[i], 0, 0, 3);
            damage("colours at " + halves[i], s, due[i] == 0 ? 0 : 3);
            s.run(0);
            Check.same("Terms colours at " + halves[i], s.stains(0), due[i]);
            Check.same("Terms no other colour at " + halves[i], s.stains(1), 0);
        }
    }

    /** "... each garment with the colour 0 gets the stain ..." */
    private static void eachGarmentWithColourZero() {
        for (int place = 0; place < 5; place++) {
            int[] colours = {0, 0, sock(0), 0, sock(0)};
            colours[place] = 7;
            LaundryService s = loaded(120, 0, colours);
            damage("four of colour 0", s, 12);
            s.run(0);
            for (int i = 0; i < 5; i++) {
                Check.same("Terms colour 7 at " + place + ", stains of " + i, s.stains(i), i == place ? 0 : 128);
            }
        }
    }

    /** "... the same number as the greatest colour in the machine." */
    private static void theGreatestColourInTheMachine() {
        for (int greatest = 0; greatest < 8; greatest++) {
            LaundryService first = loaded(120, 0, greatest, 0, greatest / 2);
            first.run(0);
            Check.same("Terms the greatest one first " + greatest, first.stains(1), 1 << greatest);
            LaundryService last = loaded(120, 0, 0, greatest / 2, greatest);
            last.run(0);
            Check.same("Terms the greatest one last " + greatest, last.stains(0), 1 << greatest);
        }
        LaundryService s = loaded(120, 0, 0, 2);
        s.bring(0, false, 7, 0);
        s.bring(0, false, 6, 0);
        s.load(2, 1);
        s.run(0);
        Check.same("Terms not the bag's and not the other machine's", s.stains(0), 4);
        Check.same("Terms the other machine is not run", s.place(2), '1');
    }

    /** "... in this order. First, stains are removed ... Then colours run." */
    private static void stainsAreRemovedBeforeColoursRun() {
        LaundryService s = loaded(180, 255, 0, 5);
        damage("the new stain stays, the old ones leave", s, 3);
        s.run(0);
        Check.same("Terms only the new stain", s.stains(0), 32);
        s.load(0, 0);
        s.run(0);
        Check.same("Terms the stain of the second run", s.stains(0), 1);
    }

    /** "Then each sock in the machine is lost if ...": stains are removed and colours run before. */
    private static void socksAreLostAfterColoursRun() {
        runAndLose("washed clean", loaded(50, 1, sock(4)), 1);
        LaundryService stained = loaded(49, 1, sock(4));
        damage("its stain stays", stained, 1);
        Check.same("Terms a stain keeps it", stained.run(0), 0);
        LaundryService coloured = loaded(120, 0, sock(0));
        damage("its colour runs", coloured, 3);
        Check.same("Terms a new stain keeps it", coloured.run(0), 0);
        runAndLose("its colour does not run yet", loaded(119, 0, sock(0)), 1);
    }

    /** "... if the number of garments in the machine is odd ...", of 1 to 5 garments. */
    private static void socksAreLostInOddLoads() {
        runAndLose("1", loaded(80, 0, sock(0)), 1);
        runAndLose("2", loaded(80, 0, sock(0), 1), 0);
        runAndLose("3", loaded(80, 0, sock(0), 1, 1), 1);
        runAndLose("4", loaded(80, 0, sock(0), 1, 1, 1), 0);
        runAndLose("5", loaded(80, 0, sock(0), 1, 1, 1, 1), 1);
        LaundryService s = loaded(80, 0, 1, sock(7));
        s.bring(0, false, 2, 0);
        s.load(2, 1);
        runAndLose("three garments in two machines", s, 0);
    }

    /** "... is odd is determined once, before any sock is lost." */
    private static void oddIsDeterminedOnce() {
        runAndLose("all of three", loaded(80, 0, sock(1), sock(2), sock(3)), 7);
        runAndLose("all of five", loaded(80, 0, sock(1), sock(2), sock(3), sock(0), sock(7)), 31);
        runAndLose("two of three", loaded(80, 0, sock(1), 1, sock(3)), 5);
        runAndLose("none of four", loaded(80, 0, sock(1), sock(2), sock(3), sock(4)), 0);
        runAndLose("none of two", loaded(80, 0, sock(1), sock(2)), 0);
    }

    /** "... the sock has no stains ...", each of the stains that 40 degrees leave. */
    private static void socksWithoutStainsAreLost() {
        for (int k = 0; k < 8; k++) {
            LaundryService s = loaded(80, 1 << k, sock(1));
            Check.same("Terms a sock with the stain " + k, s.run(0), k < 4 ? 1 : 0);
            Check.same("Terms its place with the stain " + k, s.place(0), k < 4 ? 'x' : 'b');
        }
    }

    /** "... and no other sock in the machine has the same colour." */
    private static void noOtherSockOfTheSameColour() {
        runAndLose("two of a colour", loaded(80, 0, sock(1), sock(1), 2), 0);
        runAndLose("two of a colour apart", loaded(80, 0, sock(1), 2, sock(1)), 0);
        runAndLose("three of a colour", loaded(80, 0, sock(1), sock(1), sock(1)), 0);
        runAndLose("two of a colour and one of another", loaded(80, 0, sock(1), sock(1), sock(2)), 4);
        runAndLose("no sock, but the same colour", loaded(80, 0, sock(1), 1, 1), 1);
        LaundryService s = loaded(80, 0, sock(1));
        s.bring(0, true, 1, 0);
        s.bring(0, true, 1, 0);
        s.load(2, 1);
        runAndLose("the same colour in the bag and the other machine", s, 1);
        LaundryService other = loaded(80, 0, 2, sock(1));
        other.bring(0, true, 1, 128);
        other.load(2, 0);
        damage("the other sock is stained", other, 1);
        Check.same("Terms the other sock is stained", other.run(0), 0);
    }

    /** "... a lost garment has no place in any bag or machine." */
    private static void lostGarmentsHaveNoPlace() {
        LaundryService s = loaded(80, 0, sock(6));
        s.bring(0, true, 6, 0);
        s.run(0);
        Check.same("Terms not in its bag", s.inBag(0), 2);
        Check.same("Terms not in machine 0", s.inMachine(0), 0);
        Check.same("Terms not in machine 1", s.inMachine(1), 0);
        Check.same("Terms its colour is in no machine", s.coloursIn(0), 0);
        Check.same("Terms its stains are in no machine", s.commonStains(0), 255);
        Check.same("Terms it costs nothing", s.price(0, 0), 0f);
        damage("it is in no load", s, 0);
        Check.same("Terms it makes no pair", s.pairCount(0), 0);
        Check.same("Terms it makes no pair by parity", s.pairCountByParity(0), 0);
        Check.same("Terms it is not written", s.writeBag(0), 2);
        Check.badState("Terms it is not run", () -> s.run(0));
        Check.unsupported("Terms it is not loaded", () -> s.load(0, 0));
        Check.unsupported("Terms it is not taken out", () -> s.takeOut(0));
        s.load(1, 0);
        Check.same("Terms it saves no other sock", s.run(0), 1);
        Check.same("Terms it was in one run", s.washes(0), 1);
    }

    /** "Then all other garments return to the bags of their clients." */
    private static void allOthersReturn() {
        LaundryService s = loaded(80, 255, sock(1), 1, sock(2), 3, 4);
        s.bring(0, false, 1, 255);
        s.load(5, 1);
        s.run(0);
        int[] bags = {0b10001, 0b00010, 0b00100, 0b01000};
        for (int client = 0; client < 4; client++) {
            Check.same("Terms back in the bag of " + client, s.inBag(client), bags[client]);
        }
        Check.same("Terms the other machine keeps its load", s.inMachine(1), 32);
        LaundryService some = loaded(80, 0, sock(1), 1, sock(2));
        some.run(0);
        Check.same("Terms the one that is not lost", some.inBag(1), 2);
        Check.same("Terms the lost ones", some.lost(), 5);
    }

    /** "... the number of stains that the garments in the machine have after the first step ..." */
    private static void damageOfStains() {
        int[] due = {8, 7, 6, 5, 4, 3, 2, 1, 0};
        for (int left = 0; left < 9; left++) {
            int halves = left == 0 ? 40 : 40 + 10 * left;
            damage("one with all stains at " + halves, loaded(halves, 255, 1), due[left]);
            damage("five with all stains at " + halves, loaded(halves, 255, 1, 2, 3, 4, 5), 5 * due[left]);
        }
        LaundryService s = loaded(80, 255, 1);
        s.bring(0, false, 1, 255);
        s.bring(0, false, 1, 255);
        s.load(2, 1);
        damage("the bag and the other machine do no damage", s, 4);
    }

    /** "... plus 3 for each garment that gets a stain in the second step ..." */
    private static void damageOfRunningColours() {
        int[] colours = {7, 7, 7, 7, 7};
        for (int zeros = 0; zeros <= 5; zeros++) {
            damage(zeros + " with colour 0 at 60", loaded(120, 0, colours), 3 * zeros);
            damage(zeros + " with colour 0 at 59.5", loaded(119, 0, colours), 0);
            damage(zeros + " with colour 0, stained before", loaded(120, 255, colours), 3 * zeros);
            if (zeros < 5) {
                colours[zeros] = 0;
            }
        }
    }

    /** "... plus 10 for each sock that is lost." */
    private static void damageOfLostSocks() {
        damage("no sock", loaded(80, 0, 1), 0);
        damage("one sock", loaded(80, 0, sock(1)), 10);
        damage("three socks", loaded(80, 0, sock(1), sock(2), sock(3)), 30);
        damage("five socks", loaded(80, 0, sock(1), sock(2), sock(3), sock(4), sock(5)), 50);
        damage("one lost, one stained by its colour", loaded(120, 0, sock(1), sock(0), 2), 13);
    }

    /** "Only clients with garments in the machine pay for a run." */
    private static void onlyClientsInTheMachinePay() {
        for (int payer = 0; payer < 4; payer++) {
            LaundryService s = new LaundryService();
            for (int client = 0; client < 4; client++) {
                s.bring(client, false, 1, 0);
            }
            s.load((payer + 1) % 4, 1);
            s.load(payer, 0);
            for (int client = 0; client < 4; client++) {
                Check.same("Terms price, " + client + " and " + payer, s.price(0, client), client == payer ? 6.25f : 0f);
            }
            s.run(0);
            for (int client = 0; client < 4; client++) {
                Check.same("Terms paid, " + client + " and " + payer, s.paid(client), client == payer ? 6.25f : 0f);
            }
        }
    }

    /** "1.25 times the number of garments of the client in the machine ...": 1 to 5 garments. */
    private static void priceOfGarments() {
        LaundryService s = new LaundryService();
        s.setTemperature(0, 40);
        float[] due = {3.75f, 5f, 6.25f, 7.5f, 8.75f};
        for (int i = 0; i < 5; i++) {
            s.bring(3, false, 1, 0);
            s.load(i, 0);
            Check.same("Terms price of " + (i + 1), s.price(0, 3), due[i]);
        }
    }

    /** "... divided by the number of different clients with garments in the machine ...": 1 to 4. */
    private static void priceOfHeat() {
        for (int halves = 40; halves <= 180; halves++) {
            LaundryService s = new LaundryService();
            s.setTemperature(1, halves);
            for (int client = 0; client < 4; client++) {
                s.bring(client, false, 1, 0);
                s.load(client, 1);
                float heat = (float) (halves / 2.0 * 0.125 / (client + 1));
                Check.same("Terms price at " + halves, s.price(1, client), 1.25f + heat);
            }
            float heat = (float) (halves / 2.0 * 0.125 / 4);
            s.bring(2, false, 1, 0);
            s.load(4, 1);
            Check.same("Terms two garments, and still four clients, at " + halves, s.price(1, 2), 2.5f + heat);
            Check.same("Terms the others at " + halves, s.price(1, 0), 1.25f + heat);
        }
    }

    /** "The prices of all runs are added up for each client in float arithmetic." */
    private static void pricesAreAddedUp() {
        LaundryService s = new LaundryService();
        for (int i = 0; i < 3; i++) {
            s.bring(i, false, 1, 0);
        }
        float sum = 0f;
        double exact = 0;
        boolean rounded = false;
        for (int run = 0; run < 60; run++) {
            int halves = 41 + 3 * (run % 40);
            s.setTemperature(run % 2, halves);
            for (int i = 0; i < 3; i++) {
                s.load(i, run % 2);
            }
            float price = 1.25f + (float) (halves / 2.0 * 0.125 / 3);
            sum += price;
            exact += price;
            rounded |= (float) exact != sum;
            s.run(run % 2);
            Check.same("Terms sum after run " + run, s.paid(run % 3), sum);
            Check.same("Terms bits after run " + run, s.paidBits(run % 3), Float.floatToIntBits(sum));
        }
        Check.same("Terms a sum in double would have differed", rounded, true);
    }

    public static void main(String[] args) {
        stainsLeave();
        coloursRunFromSixty();
        eachGarmentWithColourZero();
        theGreatestColourInTheMachine();
        stainsAreRemovedBeforeColoursRun();
        socksAreLostAfterColoursRun();
        socksAreLostInOddLoads();
        oddIsDeterminedOnce();
        socksWithoutStainsAreLost();
        noOtherSockOfTheSameColour();
        lostGarmentsHaveNoPlace();
        allOthersReturn();
        damageOfStains();
        damageOfRunningColours();
        damageOfLostSocks();
        onlyClientsInTheMachinePay();
        priceOfGarments();
        priceOfHeat();
        pricesAreAddedUp();
        Check.end();
    }
}
