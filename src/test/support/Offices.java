import java.util.ArrayList;
import java.util.List;

/**
 * Offices in the states at which the document draws a boundary, and the numbers just outside its
 * ranges. Each office is made by so few calls that some 350 more stay below the 512 promised.
 */
final class Offices {
    static final int ADULTS = TaperOffice.ADULTS;
    static final int CHILDREN = TaperOffice.CHILDREN;
    static final int RENT = TaperOffice.RENT;
    static final int INCOME = TaperOffice.INCOME;
    static final int SAVINGS = TaperOffice.SAVINGS;

    static final int MOST = Integer.MAX_VALUE;
    static final int LEAST = Integer.MIN_VALUE;

    /** 256 and 65536 are 0 for a program that keeps too few bits of a number. */
    static final int[] NO_MONTHS = {-1, 48, 49, 256, 65536, MOST, LEAST};
    static final int[] NO_FACTS = {-1, 5, 6, 256, MOST, LEAST};
    static final int[] NO_DAYS = {-1, -30, 1440, 1441, 65536, MOST, LEAST};
    static final int[] NO_CENTS = {0, -1, 1000001, MOST, LEAST};

    static final int[] LEAST_VALUES = {1, 0, 0, 0, 0};
    static final int[] MOST_VALUES = {2, 9, 1000000, 1000000, 10000000};

    interface Maker {
        TaperOffice make();
    }

    private Offices() {
    }

    static int[] noHouseholds(int households) {
        return new int[] {-1, households, households + 1, 6, 7, 256, 65536, MOST, LEAST};
    }

    static int[] noValues(int fact) {
        return new int[] {LEAST_VALUES[fact] - 1, MOST_VALUES[fact] + 1, -1, MOST, LEAST};
    }

    static List<Maker> allStates() {
        List<Maker> states = new ArrayList<>();
        states.add(() -> of(0));
        states.add(() -> ended(0));
        states.addAll(statesWithHouseholds());
        return states;
    }

    static List<Maker> statesWithHouseholds() {
        List<Maker> states = new ArrayList<>();
        states.add(() -> of(1));
        states.add(() -> of(6));
        states.add(() -> inMonth(5, 47));
        states.add(() -> ended(1));
        states.add(() -> ended(6));
        states.add(() -> owing(5000));
        states.add(() -> changed(99));
        states.add(() -> changed(100));
        return states;
    }

    /** In the month 0, with households of which nothing was told. */
    static TaperOffice of(int households) {
        TaperOffice office = new TaperOffice();
        for (int i = 0; i < households; i++) {
            office.add();
        }
        return office;
    }

    static TaperOffice inMonth(int households, int month) {
        TaperOffice office = of(households);
        closeTill(office, month);
        return office;
    }

    /** With the month 47 closed. */
    static TaperOffice ended(int households) {
        return inMonth(households, TaperOffice.NONE);
    }

    static void closeTill(TaperOffice office, int month) {
        for (int i = 0; i < 48 && office.month() != month; i++) {
            office.close();
        }
    }

    /**
     * In the month 2, with one household that was paid 90000 and 30000, owes the debt, of 60000 at
     * most, and does not dispute; nothing was recovered. From the month 1 on its rent is 0.
     */
    static TaperOffice owing(int debt) {
        TaperOffice office = of(1);
        office.tell(0, RENT, 0, 60000);
        office.close();
        office.tell(0, RENT, 0, 60000 - debt);
        office.tell(0, RENT, 30, 0);
        office.dispute(0, true);
        office.close();
        office.dispute(0, false);
        return office;
    }

    /** In the month 47, with one household to which the most was due for each month till then. */
    static TaperOffice richest() {
        TaperOffice office = of(1);
        tellMost(office, 0);
        closeTill(office, 47);
        return office;
    }

    /** Facts by which 174000 are due, the most of all. */
    static void tellMost(TaperOffice office, int household) {
        office.tell(household, ADULTS, 0, 2);
        office.tell(household, CHILDREN, 0, 9);
        office.tell(household, RENT, 0, 1000000);
    }

    /** In the month 0; of the changes each second one counts behind the month 47. */
    static TaperOffice changed(int changes) {
        TaperOffice office = of(1);
        for (int i = 0; i < changes; i++) {
            office.tell(0, i % 5, i % 2 == 0 ? 1439 : 0, 1);
        }
        return office;
    }
}
