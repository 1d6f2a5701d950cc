import java.lang.reflect.Field;
import java.lang.reflect.Method;
import java.lang.reflect.Modifier;
import java.util.Arrays;
import java.util.HashSet;
import java.util.List;
import java.util.Set;

/** A test for each sentence of "What it is", "The public face" and "Terms" that has a boundary. */
public final class TaperOfficeTermsTest {
    private static final int ADULTS = TaperOffice.ADULTS;
    private static final int CHILDREN = TaperOffice.CHILDREN;
    private static final int RENT = TaperOffice.RENT;
    private static final int INCOME = TaperOffice.INCOME;
    private static final int SAVINGS = TaperOffice.SAVINGS;

    private static final String NO_SUCH = " throws java.lang.IndexOutOfBoundsException";
    private static final String ARGUMENT = ",java.lang.IllegalArgumentException";
    private static final String STATE = ",java.lang.IllegalStateException";

    private static final List<String> FACE = Arrays.asList(
            "int TaperOffice.add() throws java.lang.IllegalStateException",
            "int TaperOffice.tell(int,int,int,int)" + NO_SUCH + ARGUMENT + STATE,
            "boolean TaperOffice.dispute(int,boolean)" + NO_SUCH,
            "int TaperOffice.payBack(int,int)" + NO_SUCH + ARGUMENT + STATE,
            "int TaperOffice.households()",
            "int TaperOffice.close() throws java.lang.IllegalStateException",
            "int TaperOffice.month()",
            "int TaperOffice.fact(int,int,int)" + NO_SUCH + ARGUMENT,
            "int TaperOffice.need(int,int)" + NO_SUCH,
            "int TaperOffice.taper(int,int)" + NO_SUCH,
            "int TaperOffice.tariff(int,int)" + NO_SUCH,
            "int TaperOffice.due(int,int)" + NO_SUCH,
            "int TaperOffice.unassessed(int)" + NO_SUCH,
            "int TaperOffice.wouldPay(int)" + NO_SUCH,
            "int TaperOffice.assessed(int,int)" + NO_SUCH,
            "int TaperOffice.paid(int,int)" + NO_SUCH,
            "int TaperOffice.debt(int)" + NO_SUCH,
            "int TaperOffice.recovered(int)" + NO_SUCH);

    private final Sentences sentences = new Sentences();

    public static void main(String[] args) {
        TaperOfficeTermsTest test = new TaperOfficeTermsTest();
        test.face();
        test.constants();
        test.theLastCall();
        test.monthsAndTheirDays();
        test.firstCurrentMonth();
        test.numbersOfHouseholds();
        test.rangesOfFacts();
        test.factsAtFirst();
        test.firstFifteenDays();
        test.latestMonthAndToldLast();
        test.need();
        test.dueBeforeAdded();
        test.taper();
        test.tariff();
        test.due();
        test.closingForEachHousehold();
        test.assessedAnew();
        test.notBeforeAdded();
        test.moreOverAllMonthsTogether();
        test.arrears();
        test.debtGrows();
        test.awardIsAssessed();
        test.recoveredIsTheLeast();
        test.debtFalls();
        test.whatIsPaid();
        test.nextMonth();
        test.behindTheLastMonth();
        test.neverAssessed();
        test.exceptionsByKind();
        test.firstListedException();
        test.throwingChangesNothing();
        test.sentences.end();
    }

    private void name(String words) {
        sentences.name(words);
    }

    private void due(String what, long got, long want) {
        sentences.due(what, got, want);
    }

    private void refused(String what, Offices.Maker maker, Class<?> want, Sentences.Call call) {
        sentences.refused(what, maker, want, call);
    }

    private void face() {
        name("public final class TaperOffice {");
        due("the class", TaperOffice.class.getModifiers(), Modifier.PUBLIC | Modifier.FINAL);
        Set<String> found = new HashSet<>();
        for (Method method : TaperOffice.class.getDeclaredMethods()) {
            if (!Modifier.isPrivate(method.getModifiers())) {
                found.add(method.toString());
            }
        }
        for (String method : FACE) {
            sentences.due(method + " is there", found.contains("public " + method), true);
        }
        due("methods of the face", found.size(), FACE.size());
    }

    private void constants() {
        name("The constants: `NONE = -1`: There is none.");
        due("NONE", TaperOffice.NONE, -1);
        due("ADULTS", TaperOffice.ADULTS, 0);
        due("CHILDREN", TaperOffice.CHILDREN, 1);
        due("RENT", TaperOffice.RENT, 2);
        due("INCOME", TaperOffice.INCOME, 3);
        due("SAVINGS", TaperOffice.SAVINGS, 4);
        int constants = 0;
        for (Field field : TaperOffice.class.getDeclaredFields()) {
            if (!Modifier.isPrivate(field.getModifiers())) {
                constants++;
                int wanted = Modifier.PUBLIC | Modifier.STATIC | Modifier.FINAL;
                due(field + " is a constant", field.getModifiers(), wanted);
            }
        }
        due("constants of the face", constants, 6);
    }

    private void theLastCall() {
        name("An object is used for at most 512 calls after it has been made; what later calls"
                + " answer is free.");
        TaperOffice office = Offices.of(6);
        for (int i = 0; i < 458; i++) {
            due("tell", office.tell(i % 6, RENT, 1410, i), 47);
        }
        for (int month = 0; month < 47; month++) {
            due("close() of " + month, office.close(), 6 * 30000);
        }
        due("the 512th call", office.close(), 6 * 30000 + 452 + 453 + 454 + 455 + 456 + 457);

        TaperOffice asked = Offices.of(1);
        for (int i = 0; i < 510; i++) {
            due("wouldPay", asked.wouldPay(0), 30000);
        }
        due("close() as the 512th call", asked.close(), 30000);
    }

    private void monthsAndTheirDays() {
        name("Months are numbered from 0 to 47; a month has 30 days, the month m those from 30 m"
                + " to 30 m + 29.");
        TaperOffice office = Offices.of(1);
        for (int month = 0; month < 48; month++) {
            due("first day of " + month, office.tell(0, RENT, 30 * month, 1), month);
            due("last day of " + month, office.tell(0, RENT, 30 * month + 29, 1), month + 1);
        }
        due("the month 0", office.need(0, 0), 30001);
        due("the month 47", office.need(0, 47), 30001);
        for (int none : Offices.NO_MONTHS) {
            refused("need in " + none, () -> Offices.of(1), Sentences.NO_SUCH,
                    o -> o.need(0, none));
        }
        for (int none : Offices.NO_DAYS) {
            refused("tell with day " + none, () -> Offices.of(1), Sentences.ARGUMENT,
                    o -> o.tell(0, RENT, none, 1));
        }
    }

    private void firstCurrentMonth() {
        name("One month is the current one, the month 0 at first.");
        due("month() at first", new TaperOffice().month(), 0);
        due("month() with 6 households", Offices.of(6).month(), 0);
    }

    private void numbersOfHouseholds() {
        name("Households are numbered from 0, at most 6.");
        TaperOffice office = new TaperOffice();
        for (int number = 0; number < 6; number++) {
            due("add()", office.add(), number);
            due("debt of " + number, office.debt(number), 0);
        }
        due("households()", office.households(), 6);
        refused("a 7th one", () -> Offices.of(6), Sentences.STATE, o -> o.add());
        refused("the number 6", () -> Offices.of(6), Sentences.NO_SUCH, o -> o.debt(6));
        refused("the number -1", () -> Offices.of(6), Sentences.NO_SUCH, o -> o.debt(-1));
    }

    private void rangesOfFacts() {
        name("A household has five facts: ADULTS (1 or 2, at first 1), CHILDREN (0 to 9, at first"
                + " 0), RENT (0 to 1000000, at first 0), INCOME of a month (0 to 1000000, at first"
                + " 0) and SAVINGS (0 to 10000000, at first 0).");
        int[] justInsideLow = {1, 1, 1, 1, 1};
        int[] justInsideHigh = {2, 8, 999999, 999999, 9999999};
        for (int fact = 0; fact < 5; fact++) {
            TaperOffice office = Offices.of(1);
            tellAndAsk(office, fact, Offices.MOST_VALUES[fact]);
            tellAndAsk(office, fact, Offices.LEAST_VALUES[fact]);
            tellAndAsk(office, fact, justInsideHigh[fact]);
            tellAndAsk(office, fact, justInsideLow[fact]);
            refuseValues(fact);
        }
    }

    private void tellAndAsk(TaperOffice office, int fact, int value) {
        due("tell of " + fact + " as " + value, office.tell(0, fact, 0, value), 0);
        due("fact " + fact + " told as " + value, office.fact(0, fact, 0), value);
        due("fact " + fact + " in 47 told as " + value, office.fact(0, fact, 47), value);
    }

    private void refuseValues(int fact) {
        for (int value : Offices.noValues(fact)) {
            refused("tell of " + fact + " as " + value, () -> Offices.of(1), Sentences.ARGUMENT,
                    o -> o.tell(0, fact, 0, value));
            refused("tell of " + fact + " as " + value + " behind the month 47",
                    () -> Offices.ended(1), Sentences.ARGUMENT,
                    o -> o.tell(0, fact, 1439, value));
        }
    }

    private void factsAtFirst() {
        name("ADULTS (1 or 2, at first 1), CHILDREN (0 to 9, at first 0), RENT (0 to 1000000, at"
                + " first 0), INCOME of a month (0 to 1000000, at first 0) and SAVINGS (0 to"
                + " 10000000, at first 0).");
        int[] atFirst = {1, 0, 0, 0, 0};
        TaperOffice office = Offices.inMonth(5, 47);
        office.add();
        for (int household : new int[] {0, 5}) {
            for (int fact = 0; fact < 5; fact++) {
                for (int month = 0; month < 48; month++) {
                    if (month % 12 < 2 || month == 47) {
                        due("fact " + fact + " in " + month + " with no change",
                                office.fact(household, fact, month), atFirst[fact]);
                    }
                }
            }
        }
    }

    private void firstFifteenDays() {
        name("A change of a fact is told with a day: it counts from the month of that day on if"
                + " the day is one of the first 15 of the month, otherwise from the next month"
                + " on.");
        TaperOffice office = Offices.of(1);
        for (int month = 0; month < 48; month++) {
            int day15 = 30 * month + 14;
            due("day " + day15, office.tell(0, RENT, day15, 100 + month), month);
            due("day " + (day15 + 1), office.tell(0, INCOME, day15 + 1, 1 + month), month + 1);
        }
        for (int month = 0; month < 48; month++) {
            due("rent in " + month, office.fact(0, RENT, month), 100 + month);
            due("income in " + month, office.fact(0, INCOME, month), month);
        }
        int[] days = {0, 14, 15, 29, 30, 44, 45, 1394, 1395, 1409, 1410, 1424, 1425, 1439};
        int[] months = {0, 0, 1, 1, 1, 1, 2, 46, 47, 47, 47, 47, 48, 48};
        for (int i = 0; i < days.length; i++) {
            oneChange(days[i], months[i]);
        }
    }

    private void oneChange(int day, int from) {
        TaperOffice office = Offices.of(1);
        due("tell with day " + day, office.tell(0, SAVINGS, day, 8), from);
        for (int month = 0; month < 48; month++) {
            due("savings in " + month + " told with day " + day,
                    office.fact(0, SAVINGS, month), month < from ? 0 : 8);
        }
    }

    private void latestMonthAndToldLast() {
        name("A fact has in a month the value of that change, of all changes told that count from"
                + " this month or an earlier one on, that counts from the latest month on; of"
                + " several which count from the same month on, that which was told last.");
        TaperOffice office = Offices.of(1);
        office.tell(0, INCOME, 150, 500);
        office.tell(0, INCOME, 60, 200);
        incomes(office, 0, 0, 200, 200, 200, 500);
        office.tell(0, INCOME, 74, 0);
        office.tell(0, INCOME, 45, 250);
        incomes(office, 0, 0, 250, 250, 250, 500);
        office.tell(0, INCOME, 74, 260);
        incomes(office, 0, 0, 260, 260, 260, 500);
        office.tell(0, INCOME, 14, 7);
        incomes(office, 7, 7, 260, 260, 260, 500);
        office.tell(0, INCOME, 0, 0);
        incomes(office, 0, 0, 260, 260, 260, 500);
        office.tell(0, INCOME, 120, 300);
        incomes(office, 0, 0, 260, 260, 300, 500);
        office.tell(0, INCOME, 150, 0);
        incomes(office, 0, 0, 260, 260, 300, 0);
        office.tell(0, INCOME, 1410, 9);
        office.tell(0, INCOME, 0, 11);
        office.tell(0, INCOME, 1425, 10);
        due("income in 46", office.fact(0, INCOME, 46), 0);
        due("income in 47", office.fact(0, INCOME, 47), 9);
        incomes(office, 11, 11, 260, 260, 300, 0);
        due("another fact", office.fact(0, RENT, 5), 0);
    }

    private void incomes(TaperOffice office, int... wanted) {
        for (int month = 0; month < wanted.length; month++) {
            due("income in " + month, office.fact(0, INCOME, month), wanted[month]);
        }
    }

    private void need() {
        name("the need is 30000, and 12000 for a second adult, 8000 for each child, and the rent,"
                + " but 60000 of it at most.");
        TaperOffice office = Offices.of(1);
        due("need with no change", office.need(0, 0), 30000);
        office.tell(0, ADULTS, 0, 2);
        due("need with a second adult", office.need(0, 0), 42000);
        office.tell(0, ADULTS, 0, 1);
        due("need without a second adult", office.need(0, 0), 30000);
        for (int children : new int[] {9, 8, 1, 0}) {
            office.tell(0, CHILDREN, 0, children);
            due("need with children: " + children, office.need(0, 0), 30000 + 8000 * children);
        }
        int[] rents = {0, 1, 59999, 60000, 60001, 999999, 1000000};
        int[] counted = {0, 1, 59999, 60000, 60000, 60000, 60000};
        for (int i = 0; i < rents.length; i++) {
            office.tell(0, RENT, 0, rents[i]);
            due("need with rent " + rents[i], office.need(0, 0), 30000 + counted[i]);
        }
        Offices.tellMost(office, 0);
        due("the most need", office.need(0, 0), 174000);
        due("the most need in 47", office.need(0, 47), 174000);
    }

    private void dueBeforeAdded() {
        name("What is due to a household for a month (also for one before it was added) is, by its"
                + " facts in this month:");
        TaperOffice office = Offices.inMonth(1, 47);
        office.add();
        due("due for 0 to one added in 47", office.due(1, 0), 30000);
        due("due for 46 to one added in 47", office.due(1, 46), 30000);
        office.tell(1, RENT, 0, 5);
        office.tell(1, RENT, 30, 6);
        due("due for 0", office.due(1, 0), 30005);
        due("due for 1", office.due(1, 1), 30006);
        due("due for 47", office.due(1, 47), 30006);
    }

    private void taper() {
        name("The taper is 60 percent of what the income is above 20000, rounded down.");
        TaperOffice office = Offices.of(1);
        int[] incomes = {0, 1, 19999, 20000, 20001, 20002, 20003, 20004, 20005, 20006, 999999,
                1000000};
        int[] tapers = {0, 0, 0, 0, 0, 1, 1, 2, 3, 3, 587999, 588000};
        for (int i = 0; i < incomes.length; i++) {
            office.tell(0, INCOME, 0, incomes[i]);
            due("taper of " + incomes[i], office.taper(0, 0), tapers[i]);
            due("taper in 47 of " + incomes[i], office.taper(0, 47), tapers[i]);
        }
    }

    private void tariff() {
        name("The tariff is 500 for each 25000 of savings above 600000, the last ones begun"
                + " counting as full ones.");
        TaperOffice office = Offices.of(1);
        int[] savings = {0, 1, 599999, 600000, 600001, 624999, 625000, 625001, 649999, 650000,
                650001, 1599999, 1600000, 1600001, 9975000, 9975001, 9999999, 10000000};
        int[] tariffs = {0, 0, 0, 0, 500, 500, 500, 1000, 1000, 1000,
                1500, 20000, 20000, 20500, 187500, 188000, 188000, 188000};
        for (int i = 0; i < savings.length; i++) {
            office.tell(0, SAVINGS, 0, savings[i]);
            due("tariff of " + savings[i], office.tariff(0, 0), tariffs[i]);
            due("tariff in 47 of " + savings[i], office.tariff(0, 47), tariffs[i]);
        }
    }

    private void due() {
        name("Due is the need less taper and tariff; but 0 if that is below 500, and 0 if the"
                + " savings are above 1600000.");
        TaperOffice office = Offices.of(1);
        int[] incomes = {0, 20001, 20002, 69165, 69167, 69168, 69169, 70000, 70002, 1000000};
        int[] dues = {30000, 30000, 29999, 501, 500, 500, 0, 0, 0, 0};
        for (int i = 0; i < incomes.length; i++) {
            office.tell(0, INCOME, 0, incomes[i]);
            due("due with income " + incomes[i], office.due(0, 0), dues[i]);
        }
        office.tell(0, INCOME, 0, 69169);
        office.tell(0, RENT, 0, 1);
        due("due of 500", office.due(0, 0), 500);
        office.tell(0, INCOME, 0, 0);
        office.tell(0, RENT, 0, 0);
        int[] savings = {600000, 600001, 1599999, 1600000, 1600001, 10000000};
        int[] duesThen = {30000, 29500, 10000, 10000, 0, 0};
        for (int i = 0; i < savings.length; i++) {
            office.tell(0, SAVINGS, 0, savings[i]);
            due("due with savings " + savings[i], office.due(0, 0), duesThen[i]);
        }
        Offices.tellMost(office, 0);
        office.tell(0, SAVINGS, 0, 1600001);
        due("due with the most need, savings above", office.due(0, 0), 0);
        due("tariff with savings above", office.tariff(0, 0), 20500);
        office.tell(0, SAVINGS, 0, 1600000);
        due("due with the most need, savings not above", office.due(0, 0), 154000);
        office.tell(0, SAVINGS, 0, 600000);
        due("the most due", office.due(0, 47), 174000);
    }

    private void closingForEachHousehold() {
        name("When the current month is closed, for each household by rising numbers:");
        TaperOffice none = new TaperOffice();
        for (int month = 0; month < 48; month++) {
            due("close() of " + month + " without households", none.close(), 0);
        }
        TaperOffice six = Offices.of(6);
        for (int household = 0; household < 6; household++) {
            six.tell(household, RENT, 0, 1 << household);
        }
        due("close() with 6 households", six.close(), 6 * 30000 + 63);
        for (int household = 0; household < 6; household++) {
            due("paid to " + household, six.paid(household, 0), 30000 + (1 << household));
            due("assessed for " + household, six.assessed(household, 0), 30000 + (1 << household));
        }
    }

    private void assessedAnew() {
        name("For each month before the current one, what is due now is assessed in place of what"
                + " was assessed before");
        TaperOffice first = Offices.of(1);
        first.tell(0, RENT, 0, 100);
        due("close() of the month 0, no month before it", first.close(), 30100);

        TaperOffice last = Offices.inMonth(1, 47);
        last.tell(0, RENT, 0, 100);
        due("assessed till then", last.assessed(0, 0), 30000);
        due("close() of the month 47, 47 months before it", last.close(), 30100 + 47 * 100);
        for (int month = 0; month < 48; month++) {
            due("assessed for " + month, last.assessed(0, month), 30100);
        }
        last.tell(0, RENT, 0, 0);
        due("assessed behind the month 47", last.assessed(0, 0), 30100);

        TaperOffice ends = Offices.inMonth(1, 3);
        ends.tell(0, RENT, 15, 100);
        ends.tell(0, RENT, 60, 0);
        ends.close();
        int[] assessed = {30000, 30100, 30000, 30000};
        for (int month = 0; month < 4; month++) {
            due("assessed for " + month, ends.assessed(0, month), assessed[month]);
        }
    }

    private void notBeforeAdded() {
        name("(0 for months before the household was added).");
        TaperOffice office = Offices.inMonth(1, 46);
        office.add();
        office.tell(1, RENT, 0, 100);
        due("wouldPay to one added now", office.wouldPay(1), 30100);
        due("close() of 46", office.close(), 30000 + 30100);
        office.tell(1, RENT, 0, 300);
        due("close() of 47", office.close(), 30000 + 30300 + 200);
        for (int month = 0; month < 48; month++) {
            due("assessed for " + month, office.assessed(1, month), month < 46 ? 0 : 30300);
        }
        office.tell(1, RENT, 0, 0);
        due("unassessed", office.unassessed(1), -600);
    }

    private void moreOverAllMonthsTogether() {
        name("Let d be how much more that is, over all these months together.");
        together(10000, 10000, 0, 30000, 0);
        together(10001, 10000, 0, 30001, 0);
        together(10000, 10001, 0, 29999, 1);
        together(0, 0, 0, 30000, 0);
        together(0, 10000, 10000, 30000, 0);
        together(1, 1, 1, 30001, 0);
    }

    /** More in the month 0, less in the month 1 and more in the month 2, than was assessed. */
    private void together(int more, int less, int moreAgain, int paid, int recovered) {
        String what = more + " - " + less + " + " + moreAgain + ": ";
        TaperOffice office = Offices.of(1);
        office.tell(0, RENT, 0, 20000);
        Offices.closeTill(office, 3);
        office.tell(0, RENT, 0, 20000 + more);
        office.tell(0, RENT, 30, 20000 - less);
        office.tell(0, RENT, 60, 20000 + moreAgain);
        office.tell(0, RENT, 90, 0);
        due(what + "unassessed", office.unassessed(0), more - less + moreAgain);
        due(what + "close()", office.close(), paid);
        due(what + "recovered", office.recovered(0), recovered);
        due(what + "debt", office.debt(0), 0);
    }

    private void arrears() {
        name("If d is above 0, it lowers the debt of the household, 0 at first, as far as there is"
                + " one, and the rest is paid as arrears.");
        due("debt at first", Offices.of(1).debt(0), 0);
        due("debt of a 6th household", Offices.of(6).debt(5), 0);
        arrears(5000, 1, 4999 - 4500, 30000 - 4500);
        arrears(5000, 500, 0, 30000 - 4500);
        arrears(5000, 501, 0, 30000 - 4499);
        arrears(5000, 4999, 0, 30000 - 1);
        arrears(5000, 5000, 0, 30000);
        arrears(5000, 5001, 0, 30000 + 1);
        arrears(5000, 60000, 0, 30000 + 55000);
        arrears(0, 1, 0, 30001);
        arrears(0, 60000, 0, 90000);
        arrears(1, 1, 0, 30000);
        arrears(1, 2, 0, 30001);
        arrearsInDispute();
        mostArrears();
    }

    private void arrears(int debt, int more, int debtLeft, int paid) {
        String what = "debt " + debt + ", d " + more + ": ";
        TaperOffice office = Offices.owing(debt);
        office.tell(0, RENT, 30, more);
        office.tell(0, RENT, 60, 0);
        due(what + "unassessed", office.unassessed(0), more);
        due(what + "wouldPay", office.wouldPay(0), paid);
        due(what + "close()", office.close(), paid);
        due(what + "debt", office.debt(0), debtLeft);
        due(what + "recovered", office.recovered(0),
                Math.max(0, debt - more) - debtLeft);
    }

    private void arrearsInDispute() {
        TaperOffice office = Offices.owing(5000);
        office.dispute(0, true);
        office.tell(0, RENT, 30, 4999);
        office.tell(0, RENT, 60, 0);
        due("close() in dispute", office.close(), 30000);
        due("debt in dispute", office.debt(0), 1);
        due("recovered in dispute", office.recovered(0), 0);
    }

    private void mostArrears() {
        TaperOffice office = Offices.of(6);
        for (int household = 0; household < 6; household++) {
            Offices.tellMost(office, household);
            office.tell(household, SAVINGS, 0, 10000000);
        }
        Offices.closeTill(office, 47);
        for (int household = 0; household < 6; household++) {
            office.tell(household, SAVINGS, 0, 0);
            due("the most arrears", office.unassessed(household), 47 * 174000);
        }
        due("close() with the most arrears", office.close(), 6 * 48 * 174000);
        due("paid with the most arrears", office.paid(5, 47), 48 * 174000);
    }

    private void debtGrows() {
        name("If d is below 0, the debt grows by -d.");
        TaperOffice none = Offices.owing(0);
        none.close();
        due("debt with d of 0", none.debt(0), 0);
        TaperOffice one = Offices.owing(1);
        due("debt with d of -1", one.debt(0), 1);
        TaperOffice twice = Offices.owing(5000);
        twice.dispute(0, true);
        twice.tell(0, RENT, 0, 54999);
        due("unassessed", twice.unassessed(0), -1);
        twice.close();
        due("a debt grown", twice.debt(0), 5001);

        TaperOffice most = Offices.richest();
        most.tell(0, SAVINGS, 0, 10000000);
        due("the least unassessed", most.unassessed(0), -47 * 174000);
        due("close() that makes the most debt", most.close(), 0);
        due("the most debt", most.debt(0), 47 * 174000);
    }

    private void awardIsAssessed() {
        name("What is due for the current month, the award, is assessed for it.");
        for (int month : new int[] {0, 1, 46, 47}) {
            TaperOffice office = Offices.inMonth(1, month);
            due("assessed for " + month + " before", office.assessed(0, month), 0);
            office.tell(0, RENT, 30 * month, 17);
            due("close() of " + month, office.close(), 30017);
            due("assessed for " + month, office.assessed(0, month), 30017);
        }
        TaperOffice little = Offices.of(3);
        little.tell(0, INCOME, 0, 69168);
        little.tell(1, INCOME, 0, 69169);
        Offices.tellMost(little, 2);
        little.close();
        due("the least award", little.assessed(0, 0), 500);
        due("no award", little.assessed(1, 0), 0);
        due("the most award", little.assessed(2, 0), 174000);
        TaperOffice owing = Offices.owing(5000);
        owing.close();
        due("assessed is not less what is recovered", owing.assessed(0, 2), 30000);
    }

    private void recoveredIsTheLeast() {
        name("If the household does not dispute, an amount is recovered: the least one of its debt,"
                + " of 15 percent of the award, rounded down, and of what the award and the income"
                + " of the month, added, are above 25000 (0 if they are not).");
        // Its debt.
        recovered(0, 0, 0, 0, 0);
        recovered(1, 0, 0, 0, 1);
        recovered(4499, 0, 0, 0, 4499);
        recovered(4500, 0, 0, 0, 4500);
        recovered(4501, 0, 0, 0, 4500);
        recovered(60000, 60000, 0, 0, 13500);
        // 15 percent of the award: 10000, 10006, 10007, 30000, 30006, 30007 and 500.
        recovered(9000, 0, 20000, 1600000, 1500);
        recovered(9000, 6, 20000, 1600000, 1500);
        recovered(9000, 7, 20000, 1600000, 1501);
        recovered(9000, 6, 0, 0, 4500);
        recovered(9000, 7, 0, 0, 4501);
        recovered(9000, 0, 69168, 0, 75);
        recovered(9000, 0, 1000000, 0, 0);
        recovered(9000, 0, 1000000, 10000000, 0);
        // What is above 25000: the award is 10000, or 25000 less or more.
        recovered(9000, 0, 0, 1600000, 0);
        recovered(9000, 0, 14999, 1600000, 0);
        recovered(9000, 0, 15000, 1600000, 0);
        recovered(9000, 0, 15001, 1600000, 1);
        recovered(9000, 0, 16499, 1600000, 1499);
        recovered(9000, 0, 16500, 1600000, 1500);
        recovered(9000, 0, 16501, 1600000, 1500);
        recovered(9000, 0, 0, 850000, 0);
        recovered(9000, 1, 0, 850000, 1);
        recovered(9000, 0, 25000, 1600001, 0);
        disputeStopsRecovery();
    }

    /** In the month 2, by its rent, income and savings. */
    private void recovered(int debt, int rent, int income, int savings, int wanted) {
        String what = "debt " + debt + ", rent " + rent + ", income " + income + ", savings "
                + savings + ": ";
        TaperOffice office = Offices.owing(debt);
        office.tell(0, RENT, 60, rent);
        office.tell(0, INCOME, 60, income);
        office.tell(0, SAVINGS, 60, savings);
        int award = office.due(0, 2);
        due(what + "wouldPay", office.wouldPay(0), award - wanted);
        due(what + "close()", office.close(), award - wanted);
        due(what + "recovered", office.recovered(0), wanted);
        due(what + "debt", office.debt(0), debt - wanted);
    }

    private void disputeStopsRecovery() {
        TaperOffice office = Offices.owing(5000);
        office.dispute(0, true);
        due("wouldPay in dispute", office.wouldPay(0), 30000);
        due("close() in dispute", office.close(), 30000);
        due("recovered in dispute", office.recovered(0), 0);
        due("debt in dispute", office.debt(0), 5000);
        office.dispute(0, false);
        due("close() after dispute", office.close(), 25500);
        due("recovered after dispute", office.recovered(0), 4500);
    }

    private void debtFalls() {
        name("The debt falls by it.");
        TaperOffice office = Offices.owing(9001);
        int[] debts = {4501, 1, 0, 0};
        int[] paid = {25500, 25500, 29999, 30000};
        for (int i = 0; i < debts.length; i++) {
            due("close()", office.close(), paid[i]);
            due("debt", office.debt(0), debts[i]);
        }
        due("recovered", office.recovered(0), 9001);
    }

    private void whatIsPaid() {
        name("The household is paid the award, less what is recovered, and the arrears.");
        TaperOffice office = Offices.of(3);
        office.tell(0, RENT, 0, 9000);
        office.tell(1, RENT, 0, 10000);
        office.tell(2, RENT, 0, 9000);
        due("paid the awards", office.close(), 39000 + 40000 + 39000);
        office.tell(0, RENT, 0, 10000);
        office.tell(1, RENT, 0, 9000);
        due("paid with arrears and recovery", office.close(), 41000 + 38000 + 39000);
        due("paid the award and arrears", office.paid(0, 1), 41000);
        due("paid the award less recovery", office.paid(1, 1), 38000);
        due("paid the award", office.paid(2, 1), 39000);
        due("paid in the month 0", office.paid(0, 0), 39000);

        TaperOffice onlyArrears = Offices.inMonth(1, 1);
        onlyArrears.tell(0, RENT, 0, 1);
        onlyArrears.tell(0, SAVINGS, 30, 1600001);
        due("paid arrears besides no award", onlyArrears.close(), 1);
        due("paid nothing", onlyArrears.close(), 0);
    }

    private void nextMonth() {
        name("Then the next month is the current one.");
        TaperOffice office = Offices.of(1);
        for (int month = 0; month < 47; month++) {
            office.close();
            due("month() after close() of " + month, office.month(), month + 1);
        }
    }

    private void behindTheLastMonth() {
        name("When the month 47 is closed, there is no current month any more.");
        for (int households : new int[] {0, 1, 6}) {
            TaperOffice office = Offices.inMonth(households, 47);
            due("month() before it is closed", office.month(), 47);
            due("close() of the month 47", office.close(), 30000 * households);
            due("month() then", office.month(), TaperOffice.NONE);
            refused("close()", () -> Offices.ended(households), Sentences.STATE, o -> o.close());
            refused("add()", () -> Offices.ended(households), Sentences.STATE, o -> o.add());
        }
        TaperOffice office = Offices.richest();
        office.tell(0, RENT, 0, 0);
        office.close();
        due("debt then", office.debt(0), 47 * 60000 - 17100);
        due("wouldPay then", office.wouldPay(0), 0);
        due("tell then", office.tell(0, RENT, 1410, 5), 47);
        due("tell behind the month 47 then", office.tell(0, RENT, 1425, 6), 48);
        due("fact then", office.fact(0, RENT, 47), 5);
        due("unassessed then", office.unassessed(0), 5);
        due("wouldPay with something unassessed then", office.wouldPay(0), 0);
        due("assessed then", office.assessed(0, 47), 114000);
        due("paid then", office.paid(0, 47), 114000 - 17100);
        due("payBack then", office.payBack(0, 1), 47 * 60000 - 17101);
        due("recovered then", office.recovered(0), 17101);
        sentences.due("dispute then", office.dispute(0, true), false);
        sentences.due("dispute again then", office.dispute(0, false), true);
        due("households() then", office.households(), 1);
    }

    private void neverAssessed() {
        name("No month before the one in which a household was added, or behind the current one, is"
                + " ever assessed for it.");
        for (int added : new int[] {0, 1, 2, 46, 47}) {
            TaperOffice office = Offices.inMonth(0, added);
            office.add();
            office.tell(0, RENT, 0, 60000);
            office.close();
            onlyAssessed(office, added, added);
            office.tell(0, RENT, 0, 1000);
            if (added < 47) {
                office.close();
                onlyAssessed(office, added, added + 1);
            }
            Offices.closeTill(office, TaperOffice.NONE);
            onlyAssessed(office, added, 47);
        }
    }

    private void onlyAssessed(TaperOffice office, int first, int last) {
        for (int month = 0; month < 48; month++) {
            sentences.due("whether " + month + " is assessed, added in " + first + ", closed till "
                    + last, office.assessed(0, month) > 0, month >= first && month <= last);
        }
    }

    private void exceptionsByKind() {
        name("An IndexOutOfBoundsException is thrown if there is no such household or month, an"
                + " IllegalArgumentException if another argument is out of its range, an"
                + " IllegalStateException as told.");
        Offices.Maker one = () -> Offices.of(1);
        refused("no such household", one, Sentences.NO_SUCH, o -> o.due(1, 0));
        refused("no such month", one, Sentences.NO_SUCH, o -> o.due(0, 48));
        refused("fact out of range", one, Sentences.ARGUMENT, o -> o.fact(0, 5, 0));
        refused("day out of range", one, Sentences.ARGUMENT, o -> o.tell(0, RENT, 1440, 0));
        refused("value out of range", one, Sentences.ARGUMENT, o -> o.tell(0, ADULTS, 0, 0));
        refused("cents out of range", one, Sentences.ARGUMENT, o -> o.payBack(0, 0));
        refused("no debt", one, Sentences.STATE, o -> o.payBack(0, 1));
        refused("100 changes", () -> Offices.changed(100), Sentences.STATE,
                o -> o.tell(0, RENT, 0, 0));
        refused("6 households", () -> Offices.of(6), Sentences.STATE, o -> o.add());
        refused("no current month", () -> Offices.ended(1), Sentences.STATE, o -> o.close());
    }

    private void firstListedException() {
        name("If several exceptions of a throws clause apply, the one that is listed first is"
                + " thrown.");
        Offices.Maker full = () -> Offices.changed(100);
        Offices.Maker one = () -> Offices.of(1);
        refused("tell, all apply", full, Sentences.NO_SUCH, o -> o.tell(-1, -1, -1, -1));
        refused("tell, household and fact", one, Sentences.NO_SUCH, o -> o.tell(1, 5, 0, 1));
        refused("tell, household and day", one, Sentences.NO_SUCH, o -> o.tell(1, 0, 1440, 1));
        refused("tell, household and value", one, Sentences.NO_SUCH, o -> o.tell(1, 0, 0, 0));
        refused("tell, fact and state", full, Sentences.ARGUMENT, o -> o.tell(0, 5, 0, 1));
        refused("tell, day and state", full, Sentences.ARGUMENT, o -> o.tell(0, 0, 1440, 1));
        refused("tell, value and state", full, Sentences.ARGUMENT, o -> o.tell(0, 0, 0, 3));
        refused("payBack, household and cents", one, Sentences.NO_SUCH, o -> o.payBack(1, 0));
        refused("payBack, household and much", one, Sentences.NO_SUCH,
                o -> o.payBack(1, 1000001));
        refused("payBack, cents and state", one, Sentences.ARGUMENT, o -> o.payBack(0, 1000001));
        refused("payBack, the most cents and state", one, Sentences.ARGUMENT,
                o -> o.payBack(0, Offices.MOST));
        refused("fact, household and fact", one, Sentences.NO_SUCH, o -> o.fact(1, 5, 0));
        refused("fact, month and fact", one, Sentences.NO_SUCH, o -> o.fact(0, 5, 48));
        refused("fact, all apply", one, Sentences.NO_SUCH, o -> o.fact(-1, -1, -1));
    }

    private void throwingChangesNothing() {
        name("A call that throws an exception changes nothing.");
        for (Offices.Maker state : Offices.allStates()) {
            sentences.changesNothing("many calls that throw", state, o -> {
                int thrown = manyThatThrow(o);
                due("calls that threw", thrown, MANY);
            });
        }
        Offices.Maker full = () -> Offices.changed(100);
        refused("tell with 100 changes", full, Sentences.STATE, o -> o.tell(0, RENT, 0, 9));
        refused("add() with 6", () -> Offices.of(6), Sentences.STATE, o -> o.add());
        refused("add() at the end", () -> Offices.ended(5), Sentences.STATE, o -> o.add());
        refused("close() at the end", () -> Offices.ended(6), Sentences.STATE, o -> o.close());
        refused("payBack of too much", () -> Offices.owing(5000), Sentences.STATE,
                o -> o.payBack(0, 5001));
    }

    private static final int MANY = 34;

    /** Calls that throw in every state, with a household or without one. */
    private static int manyThatThrow(TaperOffice office) {
        int thrown = 0;
        for (int none : new int[] {-1, office.households(), Offices.MOST, Offices.LEAST}) {
            thrown += count(office, o -> o.tell(none, RENT, 0, 9));
            thrown += count(office, o -> o.dispute(none, true));
            thrown += count(office, o -> o.payBack(none, 1));
            thrown += count(office, o -> o.wouldPay(none));
            thrown += count(office, o -> o.fact(none, RENT, 0));
        }
        for (int none : Offices.NO_MONTHS) {
            thrown += count(office, o -> o.due(0, none));
        }
        for (int none : Offices.NO_DAYS) {
            thrown += count(office, o -> o.tell(0, RENT, none, 9));
        }
        return thrown;
    }

    private static int count(TaperOffice office, Sentences.Call call) {
        return Sentences.thrownBy(office, call) == null ? 0 : 1;
    }
}
