/**
 * A benefit office for households: needs, income that is tapered behind a free part, limits of
 * savings, changes that are told late, awards that are assessed anew, debts that are recovered.
 */
public final class TaperOffice {
    public static final int NONE = -1;
    public static final int ADULTS = 0, CHILDREN = 1, RENT = 2, INCOME = 3, SAVINGS = 4;

    private static final int FACTS = 5;
    private static final int[] LEAST_VALUES = {1, 0, 0, 0, 0};
    private static final int[] MOST_VALUES = {2, 9, 1000000, 1000000, 10000000};

    private static final int MONTHS = 48;
    private static final int DAYS_OF_MONTH = 30;
    private static final int DAYS_COUNTING_AT_ONCE = 15;

    private static final int MOST_HOUSEHOLDS = 6;
    private static final int MOST_CHANGES = 100;
    private static final int MOST_PAID_BACK_AT_ONCE = 1000000;

    /** Null from the number {@code added} on. */
    private final Household[] rows;
    private int added;
    /** MONTHS once the last month is closed, so that all months are then those before it. */
    private int current;

    public TaperOffice() {
        rows = new Household[MOST_HOUSEHOLDS];
        added = 0;
        current = 0;
    }

    // ---- households

    public int add() throws IllegalStateException {
        if (added < 0 || added >= rows.length) {
            throw new IllegalStateException("there are 6 households");
        }
        if (current >= MONTHS) {
            throw new IllegalStateException("there is no current month");
        }
        int number = added;
        rows[number] = new Household(current);
        added = number + 1;
        return number;
    }

    public int tell(int household, int fact, int day, int value)
            throws IndexOutOfBoundsException, IllegalArgumentException, IllegalStateException {
        Household row = existing(household);
        checkFact(fact);
        if (day < 0 || day >= MONTHS * DAYS_OF_MONTH) {
            throw new IllegalArgumentException("there is no such day");
        }
        if (value < LEAST_VALUES[fact] || value > MOST_VALUES[fact]) {
            throw new IllegalArgumentException("the value is out of the range of the fact");
        }
        if (row.changes >= MOST_CHANGES) {
            throw new IllegalStateException("100 changes were told of the household");
        }
        int from = monthCountedFrom(day);
        row.change(fact, from, value);
        return from;
    }

    public boolean dispute(int household, boolean disputes) throws IndexOutOfBoundsException {
        Household row = existing(household);
        boolean before = row.disputes;
        row.disputes = disputes;
        return before;
    }

    public int payBack(int household, int cents)
            throws IndexOutOfBoundsException, IllegalArgumentException, IllegalStateException {
        Household row = existing(household);
        if (cents < 1 || cents > MOST_PAID_BACK_AT_ONCE) {
            throw new IllegalArgumentException("the cents are out of range");
        }
        if (row.debt < cents) {
            throw new IllegalStateException("the debt is less than that");
        }
        row.lowerDebt(cents);
        return row.debt;
    }

    public int households() {
        return added;
    }

    // ---- months

    public int close() throws IllegalStateException {
        if (current >= MONTHS) {
            throw new IllegalStateException("there is no current month");
        }
        int sum = 0;
        for (Household row : rows) {
            if (row != null) {
                sum += row.settle(current);
            }
        }
        current++;
        return sum;
    }

    public int month() {
        return current < MONTHS ? current : NONE;
    }

    // ---- by the facts as they are told now

    public int fact(int household, int fact, int month)
            throws IndexOutOfBoundsException, IllegalArgumentException {
        Household row = existing(household);
        checkMonth(month);
        checkFact(fact);
        return row.values[fact][month];
    }

    public int need(int household, int month) throws IndexOutOfBoundsException {
        Household row = existing(household);
        checkMonth(month);
        return row.needIn(month);
    }

    public int taper(int household, int month) throws IndexOutOfBoundsException {
        Household row = existing(household);
        checkMonth(month);
        return row.taperIn(month);
    }

    public int tariff(int household, int month) throws IndexOutOfBoundsException {
        Household row = existing(household);
        checkMonth(month);
        return row.tariffIn(month);
    }

    public int due(int household, int month) throws IndexOutOfBoundsException {
        Household row = existing(household);
        checkMonth(month);
        return row.dueIn(month);
    }

    public int unassessed(int household) throws IndexOutOfBoundsException {
        return existing(household).unassessedBefore(current);
    }

    public int wouldPay(int household) throws IndexOutOfBoundsException {
        Household row = existing(household);
        return current < MONTHS ? row.paymentIn(current) : 0;
    }

    // ---- what was done

    public int assessed(int household, int month) throws IndexOutOfBoundsException {
        Household row = existing(household);
        checkMonth(month);
        return row.assessments[month];
    }

    public int paid(int household, int month) throws IndexOutOfBoundsException {
        Household row = existing(household);
        checkMonth(month);
        return row.payments[month];
    }

    public int debt(int household) throws IndexOutOfBoundsException {
        return existing(household).debt;
    }

    public int recovered(int household) throws IndexOutOfBoundsException {
        return existing(household).takenBack;
    }

    private Household existing(int number) {
        if (number < 0 || number >= rows.length) {
            throw new IndexOutOfBoundsException("there is no such household");
        }
        Household row = rows[number];
        if (row == null) {
            throw new IndexOutOfBoundsException("there is no such household");
        }
        return row;
    }

    private static void checkMonth(int month) {
        if (month < 0 || month >= MONTHS) {
            throw new IndexOutOfBoundsException("there is no such month");
        }
    }

    private static void checkFact(int fact) {
        if (fact < 0 || fact >= FACTS) {
            throw new IllegalArgumentException("there is no such fact");
        }
    }

    private static int monthCountedFrom(int day) {
        int month = day / DAYS_OF_MONTH;
        return day % DAYS_OF_MONTH < DAYS_COUNTING_AT_ONCE ? month : month + 1;
    }

    /** One household. Its methods rely on months and facts that the office has tested. */
    private static final class Household {
        private static final int BASIC_NEED = 30000;
        private static final int SECOND_ADULT_NEED = 12000;
        private static final int CHILD_NEED = 8000;
        private static final int MOST_RENT_COUNTED = 60000;

        private static final int FREE_INCOME = 20000;
        private static final int TAPER_PERCENT = 60;

        private static final int FREE_SAVINGS = 600000;
        private static final int SAVINGS_STEP = 25000;
        private static final int TARIFF_OF_STEP = 500;
        private static final int MOST_SAVINGS = 1600000;

        private static final int LEAST_DUE = 500;

        private static final int RECOVERED_PERCENT = 15;
        private static final int LEAST_INCOME_KEPT = 25000;

        /** By fact and month; kept for every month because each close asks for all of them. */
        private final int[][] values;
        /** By fact and month: from which month on the value there counts. */
        private final int[][] since;
        private int changes;

        private final int firstMonth;
        private final int[] assessments;
        private final int[] payments;
        private int debt;
        private int takenBack;
        private boolean disputes;

        private Household(int firstMonth) {
            this.firstMonth = firstMonth;
            values = new int[FACTS][MONTHS];
            since = new int[FACTS][MONTHS];
            assessments = new int[MONTHS];
            payments = new int[MONTHS];
            for (int month = 0; month < MONTHS; month++) {
                values[ADULTS][month] = 1;
            }
        }

        private void change(int fact, int from, int value) {
            changes++;
            // A value that counts from a later month on stays, even if it was told earlier.
            for (int month = from; month < MONTHS && since[fact][month] <= from; month++) {
                values[fact][month] = value;
                since[fact][month] = from;
            }
        }

        private int needIn(int month) {
            int need = BASIC_NEED + values[CHILDREN][month] * CHILD_NEED;
            if (values[ADULTS][month] > 1) {
                need += SECOND_ADULT_NEED;
            }
            return need + Math.min(values[RENT][month], MOST_RENT_COUNTED);
        }

        private int taperIn(int month) {
            int above = Math.max(0, values[INCOME][month] - FREE_INCOME);
            return above * TAPER_PERCENT / 100;
        }

        private int tariffIn(int month) {
            int above = Math.max(0, values[SAVINGS][month] - FREE_SAVINGS);
            int stepsBegun = (above + SAVINGS_STEP - 1) / SAVINGS_STEP;
            return stepsBegun * TARIFF_OF_STEP;
        }

        private int dueIn(int month) {
            if (values[SAVINGS][month] > MOST_SAVINGS) {
                return 0;
            }
            int rest = needIn(month) - taperIn(month) - tariffIn(month);
            return rest < LEAST_DUE ? 0 : rest;
        }

        private int unassessedBefore(int end) {
            int sum = 0;
            for (int month = firstMonth; month < end; month++) {
                sum += dueIn(month) - assessments[month];
            }
            return sum;
        }

        private int owedAfter(int moreDue) {
            return Math.max(0, debt - moreDue);
        }

        private int arrearsOf(int moreDue) {
            return Math.max(0, moreDue - debt);
        }

        private int recoverableIn(int month, int owed) {
            if (disputes) {
                return 0;
            }
            int award = dueIn(month);
            int ofAward = award * RECOVERED_PERCENT / 100;
            int aboveKept = Math.max(0, award + values[INCOME][month] - LEAST_INCOME_KEPT);
            return Math.min(owed, Math.min(ofAward, aboveKept));
        }

        private int paymentIn(int month) {
            int moreDue = unassessedBefore(month);
            int recoverable = recoverableIn(month, owedAfter(moreDue));
            return dueIn(month) - recoverable + arrearsOf(moreDue);
        }

        private int settle(int month) {
            // Before anything changes: it rests on the debt and on what was assessed till now.
            int payment = paymentIn(month);
            debt = owedAfter(unassessedBefore(month));
            lowerDebt(recoverableIn(month, debt));
            for (int assessed = firstMonth; assessed <= month; assessed++) {
                assessments[assessed] = dueIn(assessed);
            }
            payments[month] = payment;
            return payment;
        }

        private void lowerDebt(int cents) {
            debt -= cents;
            takenBack += cents;
        }
    }
}
