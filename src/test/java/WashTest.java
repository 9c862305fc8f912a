/** Promises 6, 14, 20, 26 to 28, 33 and 38: runs, what they do, and what they would do. */
public final class WashTest {
    private static void damage(LaundryService s, int machine, int due) {
        Check.same("26 damage " + machine, s.damage(machine), due);
        Check.same("27 damageByMasks " + machine, s.damageByMasks(machine), due);
        Check.same("38 isConsistent", s.isConsistent(), true);
    }

    private static void refusals() {
        LaundryService s = new LaundryService();
        s.bring(0, false, 1, 1);
        s.load(0, 0);
        Check.badState("6 empty", () -> s.run(1));
        Check.badState("28 empty", () -> s.bestTemperature(1));
        damage(s, 1, 0);
        int[] none = {-1, 2, Integer.MIN_VALUE, Integer.MAX_VALUE};
        for (int machine : none) {
            Check.noIndex("6 machine " + machine, () -> s.run(machine));
            Check.noIndex("26 machine " + machine, () -> s.damage(machine));
            Check.noIndex("27 machine " + machine, () -> s.damageByMasks(machine));
            Check.noIndex("28 machine " + machine, () -> s.bestTemperature(machine));
        }
        Check.same("33 no run", s.runCount(), 0);
        Check.same("14 no run", s.washes(0), 0);
    }

    private static void stainsLeave() {
        for (int k = 0; k < 8; k++) {
            for (int below = 0; below < 2; below++) {
                LaundryService s = new LaundryService();
                s.bring(0, false, 1, 255);
                s.bring(1, false, 1, 1 << k);
                s.load(0, 1);
                s.load(1, 1);
                s.setTemperature(1, 50 + 10 * k - below);
                int due = 255 & -1 << k + 1 - below;
                damage(s, 1, Integer.bitCount(due) + below);
                Check.same("6 none lost", s.run(1), 0);
                Check.same("6 stains of 0", s.stains(0), due);
                Check.same("6 stains of 1", s.stains(1), below << k);
                Check.same("6 back", s.place(0), 'b');
                Check.same("14 one run", s.washes(0), 1);
                Check.same("33 one run", s.runCount(), 1);
                Check.same("6 empty", s.inMachine(1), 0);
            }
        }
    }

    private static void coloursRun() {
        LaundryService s = new LaundryService();
        s.bring(0, false, 0, 0);
        s.bring(1, true, 0, 16);
        s.bring(2, false, 6, 255);
        s.bring(2, false, 5, 1);
        s.bring(2, false, 7, 3);
        for (int i = 0; i < 4; i++) {
            s.load(i, 0);
        }
        s.setTemperature(0, 119);
        damage(s, 0, 1);
        s.setTemperature(0, 120);
        damage(s, 0, 6);
        Check.same("11 damage washes only a copy", s.stains(2), 255);
        Check.same("13 damage leaves the load", s.inMachine(0), 15);
        Check.same("6 none lost", s.run(0), 0);
        Check.same("6 the greatest colour's stain", s.stains(0), 64);
        Check.same("6 on each garment of colour 0", s.stains(1), 64);
        Check.same("6 on no other", s.stains(2), 0);
        Check.same("6 not in the machine", s.stains(4), 3);
        Check.same("14 not in the machine", s.washes(4), 0);
    }

    private static void colourZeroAlone() {
        LaundryService s = new LaundryService();
        s.bring(0, true, 0, 254);
        s.load(0, 0);
        s.setTemperature(0, 180);
        damage(s, 0, 3);
        Check.same("6 stained, not lost", s.run(0), 0);
        Check.same("6 the stain 0", s.stains(0), 1);
        s.load(0, 0);
        damage(s, 0, 3);
        s.setTemperature(0, 119);
        damage(s, 0, 10);
        Check.same("6 lost", s.run(0), 1);
    }

    private static void firstGarmentHasTheGreatestColour() {
        LaundryService s = new LaundryService();
        s.bring(0, false, 5, 0);
        s.bring(0, false, 0, 0);
        s.load(0, 0);
        s.load(1, 0);
        s.setTemperature(0, 180);
        damage(s, 0, 3);
        s.run(0);
        Check.same("6 its stain", s.stains(1), 32);
    }

    private static void firstGarmentSavesAnother() {
        LaundryService s = new LaundryService();
        s.bring(0, true, 5, 128);
        s.bring(1, true, 5, 0);
        s.bring(1, false, 5, 0);
        for (int i = 0; i < 3; i++) {
            s.load(i, 0);
        }
        damage(s, 0, 1);
        Check.same("6 none lost", s.run(0), 0);
    }

    /** No call looks behind the sixteenth garment. */
    private static void fullService() {
        LaundryService s = new LaundryService();
        for (int i = 0; i < 16; i++) {
            s.bring(i % 4, i % 3 > 0, i % 8, i);
        }
        for (int i = 6; i < 16; i++) {
            s.load(i, i % 2);
        }
        s.setTemperature(0, 120);
        damage(s, 0, 23);
        damage(s, 1, 30);
        Check.same("28 full", s.bestTemperature(1), 60);
        Check.same("34 full", s.dirtiest(0), 15);
        Check.same("34 full, last", s.dirtiest(15), 0);
        Check.same("16 full", s.pairCount(1), s.pairCountByParity(1));
        Check.same("6 full", s.run(0), 2);
        Check.same("6 full too", s.run(1), 3);
        Check.same("20 full", s.lost(), 1 << 10 | 1 << 14 | 1 << 7 | 1 << 11 | 1 << 13);
    }

    private static LaundryService socks(int number, boolean shirtToo) {
        LaundryService s = new LaundryService();
        for (int i = 0; i < number; i++) {
            s.bring(i % 4, true, i + 1, 0);
            s.load(i, 0);
        }
        if (shirtToo) {
            s.bring(0, false, 1, 0);
            s.load(number, 0);
        }
        return s;
    }

    private static void socksAreLost() {
        for (int number = 1; number <= 5; number++) {
            LaundryService s = socks(number, false);
            int due = number % 2 == 1 ? number : 0;
            damage(s, 0, 10 * due);
            Check.same("6 socks lost of " + number, s.run(0), due);
            Check.same("20 socks lost of " + number, s.lost(), due == 0 ? 0 : (1 << number) - 1);
            Check.same("14 a lost one was in the run", s.washes(0), 1);
            Check.same("18 no bag", s.inBag(0) & s.lost(), 0);
            Check.same("19 no machine", s.inMachine(0), 0);
        }
        LaundryService s = socks(2, true);
        damage(s, 0, 20);
        Check.same("6 a shirt makes it odd, and its colour saves none", s.run(0), 2);
        Check.same("13 shirts stay", s.place(2), 'b');
        Check.same("6 a shirt makes it even", socks(3, true).run(0), 0);
    }

    private static void socksAreKept() {
        LaundryService s = new LaundryService();
        s.bring(0, true, 2, 0);
        s.bring(1, true, 2, 128);
        s.bring(0, true, 3, 128);
        s.bring(0, true, 4, 1);
        s.bring(0, false, 4, 0);
        for (int i = 0; i < 5; i++) {
            s.load(i, 1);
        }
        damage(s, 1, 12);
        Check.same("6 only the clean single one", s.run(1), 1);
        Check.same("20 only this one", s.lost(), 8);
        Check.same("13 a pair of two clients", s.place(0), 'b');
        Check.same("13 a stained one", s.place(2), 'b');
    }

    private static void sameColourElsewhere() {
        LaundryService s = new LaundryService();
        for (int i = 0; i < 3; i++) {
            s.bring(0, true, 2, 0);
        }
        s.load(0, 0);
        s.load(1, 1);
        Check.same("6 others are in the bag and the other machine", s.run(0), 1);
        Check.same("6 another one is lost", s.run(1), 1);
        Check.same("20 both", s.lost(), 3);
        Check.same("33 both", s.runCount(), 2);
        Check.badState("6 empty again", () -> s.run(0));
    }

    private static int best(int halves, int... stainsAndColours) {
        LaundryService s = new LaundryService();
        for (int i = 0; i < stainsAndColours.length; i += 2) {
            s.bring(0, stainsAndColours[i + 1] < 0, Math.abs(stainsAndColours[i + 1]), stainsAndColours[i]);
            s.load(i / 2, 0);
        }
        s.setTemperature(0, halves);
        int answer = s.bestTemperature(0);
        Check.same("28 leaves the temperature", s.temperature(0), halves / 2f);
        return answer;
    }

    private static void bestTemperature() {
        Check.same("28 nothing to remove", best(180, 0, 1), 40);
        for (int k = 0; k < 8; k++) {
            Check.same("28 stain " + k, best(90, 1 << k, 1), 50 + 10 * k);
        }
        Check.same("28 colours would run", best(80, 192, 0), 110);
        Check.same("28 worth the running colour", best(80, 128, 0, 128, 1, 128, 2, 128, 3), 120);
        Check.same("28 as harmful, so the lowest", best(80, 128, 0, 128, 1, 128, 2), 40);
        Check.same("28 a stain keeps the sock", best(180, 1, -1), 40);
        Check.same("28 the stain 1 goes, the stain 2 keeps the sock", best(180, 7, -1), 60);
        Check.same("28 a running colour keeps the sock", best(80, 0, 0, 0, 1, 0, 2), 40);
    }

    public static void main(String[] args) {
        refusals();
        stainsLeave();
        coloursRun();
        colourZeroAlone();
        firstGarmentHasTheGreatestColour();
        firstGarmentSavesAnother();
        fullService();
        socksAreLost();
        socksAreKept();
        sameColourElsewhere();
        bestTemperature();
        Check.end();
    }
}
