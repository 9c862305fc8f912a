/** Promises 5 and 19 to 25: machines, temperatures, and what is in a load. */
public final class MachineTest {
    private static void setTemperature() {
        LaundryService s = new LaundryService();
        Check.same("5 before", s.setTemperature(0, 40), 40f);
        Check.same("5 lowest", s.setTemperature(0, 180), 20f);
        Check.same("5 highest", s.setTemperature(0, 81), 90f);
        Check.same("5 a half", s.setTemperature(0, 81), 40.5f);
        Check.same("5 the other one", s.setTemperature(1, 60), 40f);
        Check.badArgument("5 39", () -> s.setTemperature(0, 39));
        Check.badArgument("5 181", () -> s.setTemperature(0, 181));
        Check.badArgument("5 least", () -> s.setTemperature(0, Integer.MIN_VALUE));
        Check.noIndex("5 machine 2", () -> s.setTemperature(2, 80));
        Check.noIndex("5 machine -1", () -> s.setTemperature(-1, 39));
        Check.same("21 stays", s.temperature(0), 40.5f);
        Check.same("21 other", s.temperature(1), 30f);
        Check.noIndex("21 machine 2", () -> s.temperature(2));
        Check.noIndex("21 machine -1", () -> s.temperature(-1));
    }

    private static void bitsAndWashableStains() {
        for (int halves = 40; halves <= 180; halves++) {
            LaundryService s = new LaundryService();
            s.setTemperature(1, halves);
            float due = halves / 2f;
            Check.same("21 at " + halves, s.temperature(1), due);
            Check.same("22 at " + halves, s.temperatureBits(1), Float.floatToIntBits(due));
            int stains = 0;
            for (int k = 0; k < 8; k++) {
                stains += due >= 25 + 5 * k ? 1 << k : 0;
            }
            Check.same("23 at " + halves, s.washableStains(1), stains);
        }
        LaundryService s = new LaundryService();
        Check.same("22 untouched machine", s.temperatureBits(0), 1109393408);
        Check.same("23 untouched machine", s.washableStains(0), 15);
        Check.noIndex("22 machine 2", () -> s.temperatureBits(2));
        Check.noIndex("22 machine -1", () -> s.temperatureBits(-1));
        Check.noIndex("23 machine 2", () -> s.washableStains(2));
        Check.noIndex("23 machine -1", () -> s.washableStains(-1));
    }

    private static void loads() {
        LaundryService s = new LaundryService();
        s.bring(0, true, 7, 0b1110);
        s.bring(1, false, 0, 0b0111);
        s.bring(2, false, 3, 0b0110);
        s.bring(2, false, 4, 0);
        Check.same("24 empty", s.commonStains(1), 255);
        Check.same("25 empty", s.coloursIn(1), 0);
        Check.same("19 empty", s.inMachine(1), 0);
        s.load(0, 1);
        Check.same("24 one", s.commonStains(1), 0b1110);
        s.load(1, 1);
        Check.same("24 two", s.commonStains(1), 0b0110);
        Check.same("25 two", s.coloursIn(1), 0b10000001);
        s.load(2, 1);
        Check.same("19 three", s.inMachine(1), 0b111);
        Check.same("24 three", s.commonStains(1), 0b0110);
        Check.same("25 three", s.coloursIn(1), 0b10001001);
        s.load(3, 1);
        Check.same("24 four", s.commonStains(1), 0);
        Check.same("24 the other one", s.commonStains(0), 255);
        Check.same("25 the other one", s.coloursIn(0), 0);
        Check.same("19 the other one", s.inMachine(0), 0);
        Check.same("20 none lost", s.lost(), 0);
        int[] none = {-1, 2, Integer.MIN_VALUE, Integer.MAX_VALUE};
        for (int machine : none) {
            Check.noIndex("19 machine " + machine, () -> s.inMachine(machine));
            Check.noIndex("24 machine " + machine, () -> s.commonStains(machine));
            Check.noIndex("25 machine " + machine, () -> s.coloursIn(machine));
        }
    }

    public static void main(String[] args) {
        setTemperature();
        bitsAndWashableStains();
        loads();
        Check.end();
    }
}
