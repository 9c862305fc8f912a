/** Promises 1 to 4, 7 to 14 and 32: garments, where they are, and what they look like. */
public final class GarmentTest {
    private static void newObject() {
        LaundryService s = new LaundryService();
        Check.same("1 garmentCount", s.garmentCount(), 0);
        Check.same("1 temperature 0", s.temperature(0), 40f);
        Check.same("1 temperature 1", s.temperature(1), 40f);
        Check.same("1 inMachine 0", s.inMachine(0), 0);
        Check.same("1 inMachine 1", s.inMachine(1), 0);
        Check.same("1 runCount", s.runCount(), 0);
        Check.same("1 undoCount", s.undoCount(), 0);
        LaundryService other = new LaundryService();
        s.bring(0, true, 1, 1);
        s.setTemperature(0, 100);
        Check.same("1 objects are apart", other.garmentCount(), 0);
        Check.same("1 temperatures are apart", other.temperature(0), 40f);
    }

    private static void bring() {
        LaundryService s = new LaundryService();
        Check.same("2 bring 0", s.bring(0, true, 0, 0), 0);
        Check.same("2 bring 1", s.bring(3, false, 7, 255), 1);
        Check.same("2 bring 2", s.bring(2, true, 4, 129), 2);
        Check.same("2 place", s.place(2), 'b');
        Check.same("7 garmentCount", s.garmentCount(), 3);
        Check.noIndex("2 client -1", () -> s.bring(-1, true, 0, 0));
        Check.noIndex("2 client 4", () -> s.bring(4, true, 0, 0));
        Check.noIndex("2 client first", () -> s.bring(4, true, 8, 256));
        Check.badArgument("2 colour -1", () -> s.bring(0, true, -1, 0));
        Check.badArgument("2 colour 8", () -> s.bring(0, true, 8, 0));
        Check.badArgument("2 stains -1", () -> s.bring(0, true, 0, -1));
        Check.badArgument("2 stains 256", () -> s.bring(0, true, 0, 256));
        Check.noIndex("2 least client", () -> s.bring(Integer.MIN_VALUE, true, 0, 0));
        Check.badArgument("2 greatest stains", () -> s.bring(0, true, 0, Integer.MAX_VALUE));
        Check.same("2 nothing came", s.garmentCount(), 3);
        Check.same("2 nothing to undo", s.undoCount(), 3);
        for (int i = 3; i < 16; i++) {
            Check.same("2 bring " + i, s.bring(1, false, 3, 0), i);
        }
        Check.badState("2 full", () -> s.bring(0, true, 0, 0));
        Check.noIndex("2 full, no client", () -> s.bring(4, true, 0, 0));
        Check.badArgument("2 full, no colour", () -> s.bring(0, true, 8, 0));
        Check.same("7 sixteen", s.garmentCount(), 16);
    }

    private static void lostOnesCount() {
        LaundryService s = new LaundryService();
        for (int i = 0; i < 16; i++) {
            s.bring(0, true, 1, 0);
        }
        s.load(5, 0);
        Check.same("6 one lost", s.run(0), 1);
        Check.same("7 lost ones included", s.garmentCount(), 16);
        Check.badState("2 lost ones count towards the limit", () -> s.bring(0, true, 0, 0));
    }

    private static void load() {
        LaundryService s = new LaundryService();
        for (int i = 0; i < 8; i++) {
            s.bring(i % 4, i % 2 == 0, 1, 3);
        }
        Check.same("3 load 0", s.load(0, 0), 1);
        Check.same("3 load 7", s.load(7, 0), 2);
        Check.same("3 other machine", s.load(1, 1), 1);
        Check.same("13 machine 0", s.place(7), '0');
        Check.same("13 machine 1", s.place(1), '1');
        Check.noIndex("3 garment -1", () -> s.load(-1, 0));
        Check.noIndex("3 garment 8", () -> s.load(8, 0));
        Check.noIndex("3 machine -1", () -> s.load(2, -1));
        Check.noIndex("3 machine 2", () -> s.load(2, 2));
        Check.noIndex("3 no machine before not in bag", () -> s.load(0, 2));
        Check.unsupported("3 in this machine", () -> s.load(0, 0));
        Check.unsupported("3 in the other machine", () -> s.load(0, 1));
        s.load(2, 0);
        s.load(3, 0);
        Check.same("3 fifth", s.load(4, 0), 5);
        Check.badState("3 full", () -> s.load(5, 0));
        Check.unsupported("3 not in bag before full", () -> s.load(1, 0));
        Check.noIndex("3 no garment before full", () -> s.load(8, 0));
        Check.same("3 stays in its bag", s.place(5), 'b');
        Check.same("3 the other one has room", s.load(5, 1), 2);
        Check.same("19 five", s.inMachine(0), 0b10011101);
    }

    private static void takeOut() {
        LaundryService s = new LaundryService();
        s.bring(0, true, 1, 255);
        s.bring(2, false, 1, 3);
        s.bring(2, true, 2, 0);
        s.load(0, 1);
        s.load(1, 0);
        Check.same("4 from 1", s.takeOut(0), 1);
        Check.same("4 from 0", s.takeOut(1), 0);
        Check.same("4 in the bag", s.place(0), 'b');
        Check.same("4 unwashed", s.stains(0), 255);
        Check.same("4 no run", s.washes(0), 0);
        Check.same("4 machine empty", s.inMachine(1), 0);
        Check.unsupported("4 in the bag", () -> s.takeOut(0));
        Check.noIndex("4 garment -1", () -> s.takeOut(-1));
        Check.noIndex("4 garment 3", () -> s.takeOut(3));
        s.load(2, 0);
        s.run(0);
        Check.same("13 lost", s.place(2), 'x');
        Check.unsupported("4 lost", () -> s.takeOut(2));
        Check.unsupported("3 lost", () -> s.load(2, 0));
    }

    private static void looks() {
        LaundryService s = new LaundryService();
        s.bring(3, true, 7, 0xA5);
        s.bring(0, false, 0, 0);
        Check.same("8 client", s.client(0), 3);
        Check.same("8 client 0", s.client(1), 0);
        Check.same("9 sock", s.isSock(0), true);
        Check.same("9 shirt", s.isSock(1), false);
        Check.same("10 colour", s.colour(0), 7);
        Check.same("10 colour 0", s.colour(1), 0);
        Check.same("11 stains", s.stains(0), 0xA5);
        Check.same("11 no stains", s.stains(1), 0);
        Check.same("12 stainCount", s.stainCount(0), 4);
        Check.same("12 none", s.stainCount(1), 0);
        Check.same("14 washes", s.washes(0), 0);
        int[] none = {-1, 2, 16, Integer.MIN_VALUE, Integer.MAX_VALUE};
        for (int garment : none) {
            Check.noIndex("8 client " + garment, () -> s.client(garment));
            Check.noIndex("9 isSock " + garment, () -> s.isSock(garment));
            Check.noIndex("10 colour " + garment, () -> s.colour(garment));
            Check.noIndex("11 stains " + garment, () -> s.stains(garment));
            Check.noIndex("12 stainCount " + garment, () -> s.stainCount(garment));
            Check.noIndex("13 place " + garment, () -> s.place(garment));
            Check.noIndex("14 washes " + garment, () -> s.washes(garment));
            Check.noIndex("32 packed " + garment, () -> s.packed(garment));
        }
    }

    private static void packed() {
        LaundryService s = new LaundryService();
        s.bring(3, true, 7, 255);
        s.bring(1, false, 2, 4);
        Check.same("32 all low bits", s.packed(0), 0x3FFFL);
        Check.same("32 shirt", s.packed(1), 4L | 2L << 8 | 1L << 11);
        s.load(0, 0);
        s.load(1, 1);
        Check.same("32 machine 0", s.packed(0), 0x7FFFL);
        Check.same("32 machine 1", s.packed(1), 4L | 2L << 8 | 1L << 11 | 2L << 14);
        s.run(1);
        s.load(1, 0);
        s.run(0);
        Check.same("14 two runs", s.washes(1), 2);
        Check.same("32 two runs", s.packed(1), 2L << 8 | 1L << 11 | 2L << 16);
        s.setTemperature(0, 180);
        s.load(0, 0);
        s.run(0);
        Check.same("32 lost", s.packed(0), 7L << 8 | 3L << 11 | 1L << 13 | 3L << 14 | 2L << 16);
    }

    public static void main(String[] args) {
        newObject();
        bring();
        lostOnesCount();
        load();
        takeOut();
        looks();
        packed();
        Check.end();
    }
}
