/** Promises 34, 36 and 37: the dirtiest garments, their mean, and the share of the lost ones. */
public final class StatisticsTest {
    private static void noGarments() {
        LaundryService s = new LaundryService();
        Check.noElement("34 none", () -> s.dirtiest(0));
        Check.noArithmetic("36 none", () -> s.meanStains());
        Check.noArithmetic("37 none", () -> s.lostShare());
    }

    private static void garments() {
        LaundryService s = new LaundryService();
        s.bring(0, true, 1, 0);
        s.bring(0, true, 2, 7);
        s.bring(1, false, 3, 128);
        s.bring(2, false, 3, 19);
        s.bring(2, false, 3, 0);
        int[] due = {1, 3, 2, 0, 4};
        for (int rank = 0; rank < 5; rank++) {
            Check.same("34 rank " + rank, s.dirtiest(rank), due[rank]);
        }
        Check.same("36 mean", s.meanStains(), 7.0 / 5.0);
        Check.same("37 none lost", s.lostShare(), 0f);
        s.load(3, 1);
        Check.same("34 machines count too", s.dirtiest(1), 3);
        Check.same("36 machines count too", s.meanStains(), 7.0 / 5.0);
        s.load(0, 0);
        s.run(0);
        int[] later = {1, 3, 2, 4};
        for (int rank = 0; rank < 4; rank++) {
            Check.same("34 without the lost one, rank " + rank, s.dirtiest(rank), later[rank]);
        }
        int[] none = {-1, 4, 5, 16, Integer.MIN_VALUE, Integer.MAX_VALUE};
        for (int rank : none) {
            Check.noElement("34 rank " + rank, () -> s.dirtiest(rank));
        }
        Check.same("36 without the lost one", s.meanStains(), 7.0 / 4.0);
        Check.same("37 one of five", s.lostShare(), 0.2f);
        s.bring(2, false, 3, 0);
        Check.same("37 one of six", s.lostShare(), 1f / 6f);
        s.bring(2, false, 3, 1);
        Check.same("36 a fraction", s.meanStains(), 8.0 / 6.0);
    }

    private static void allLost() {
        LaundryService s = new LaundryService();
        s.bring(0, true, 1, 0);
        s.load(0, 0);
        s.run(0);
        Check.noElement("34 all lost", () -> s.dirtiest(0));
        Check.noArithmetic("36 all lost", () -> s.meanStains());
        Check.same("37 all lost", s.lostShare(), 1f);
    }

    public static void main(String[] args) {
        noGarments();
        garments();
        allLost();
        Check.end();
    }
}
