import java.lang.reflect.Constructor;
import java.lang.reflect.Field;
import java.lang.reflect.Method;
import java.lang.reflect.Modifier;
import java.util.ArrayList;
import java.util.Arrays;
import java.util.Collections;
import java.util.List;

/** A test for each promise of the document: ordinary inputs, edges and wrong inputs. */
public final class TaperOfficePromisesTest {
    private static final int ADULTS = TaperOffice.ADULTS;
    private static final int CHILDREN = TaperOffice.CHILDREN;
    private static final int RENT = TaperOffice.RENT;
    private static final int INCOME = TaperOffice.INCOME;
    private static final int SAVINGS = TaperOffice.SAVINGS;

    private static final Class<?> NO_SUCH = IndexOutOfBoundsException.class;
    private static final Class<?> ARGUMENT = IllegalArgumentException.class;
    private static final Class<?> STATE = IllegalStateException.class;

    private static final int[] NO_HOUSEHOLDS =
            {-1, 1, 2, 5, 6, 7, 1000, Integer.MAX_VALUE, Integer.MIN_VALUE};
    private static final int[] NO_MONTHS =
            {-1, 48, 49, 1000, Integer.MAX_VALUE, Integer.MIN_VALUE};
    private static final int[] NO_FACTS = {-1, 5, 6, Integer.MAX_VALUE, Integer.MIN_VALUE};

    private static int wrong = 0;

    private interface Call {
        void run(TaperOffice office);
    }

    private interface Maker {
        TaperOffice make();
    }

    public static void main(String[] args) {
        theFace();
        promise1NewObject();
        promise2Add();
        promise2AddLater();
        promise3TellMonths();
        promise3TellRanges();
        promise3TellOrderOfExceptions();
        promise3TellHundredChanges();
        promise4Dispute();
        promise4DisputeStopsRecoveryOnly();
        promise5PayBack();
        promise5PayBackOfMuch();
        promise6Households();
        promise7Close();
        promise7CloseAssessesAnew();
        promise7RecoveryCeilings();
        promise7Arrears();
        promise8Month();
        promise9Fact();
        promise10Need();
        promise11Taper();
        promise12Tariff();
        promise13Due();
        promise14Unassessed();
        promise15WouldPay();
        promise16Assessed();
        promise17Paid();
        promise18Debt();
        promise19Recovered();
        questionsOfMonthsRefuse();
        questionsOfHouseholdsRefuse();
        objectsAreApart();
        System.out.println(wrong == 0 ? "all promises hold" : wrong + " answers are wrong");
        System.exit(wrong == 0 ? 0 : 1);
    }

    private static void due(String what, long got, long want) {
        if (got != want) {
            wrong++;
            System.out.println(what + " answered " + got + ", due is " + want);
        }
    }

    private static void due(String what, boolean got, boolean want) {
        due(what, got ? 1 : 0, want ? 1 : 0);
    }

    /**
     * Also tests that the call that throws changes nothing. Objects are made anew for each
     * question of this, as nothing is promised about an object after its 512th call.
     */
    private static void refused(String what, Maker maker, Class<?> want, Call call) {
        int households = maker.make().households();
        for (int household = -1; household < households; household++) {
            TaperOffice tried = maker.make();
            Class<?> got = null;
            try {
                call.run(tried);
            } catch (Throwable thrown) {
                got = thrown.getClass();
            }
            if (got != want) {
                wrong++;
                System.out.println(what + " threw " + got + ", due is " + want);
            }
            if (!stateOf(tried, household).equals(stateOf(maker.make(), household))) {
                wrong++;
                System.out.println(what + " changed something");
            }
        }
    }

    /** What is asked of the office, and of a household if it is not below 0. */
    private static String stateOf(TaperOffice office, int household) {
        StringBuilder state = new StringBuilder();
        state.append(office.households()).append(' ').append(office.month());
        if (household >= 0) {
            state.append(' ').append(office.debt(household));
            state.append(' ').append(office.recovered(household));
            state.append(' ').append(office.unassessed(household));
            state.append(' ').append(office.wouldPay(household));
            state.append(' ').append(office.dispute(household, true));
            for (int month = 0; month < 48; month++) {
                for (int fact = 0; fact < 5; fact++) {
                    state.append(' ').append(office.fact(household, fact, month));
                }
                state.append(' ').append(office.assessed(household, month));
                state.append(' ').append(office.paid(household, month));
            }
        }
        return state.toString();
    }

    private static TaperOffice officeOf(int households) {
        TaperOffice office = new TaperOffice();
        for (int i = 0; i < households; i++) {
            office.add();
        }
        return office;
    }

    private static void closeTill(TaperOffice office, int month) {
        for (int i = 0; i < 48 && office.month() != month; i++) {
            office.close();
        }
    }

    private static TaperOffice officeAtItsEnd(int households) {
        TaperOffice office = officeOf(households);
        closeTill(office, TaperOffice.NONE);
        return office;
    }

    /** A household that owes: two months of 90000 turned out as 30000, and 4500 came back. */
    private static TaperOffice officeWithDebt() {
        TaperOffice office = officeOf(1);
        office.tell(0, RENT, 0, 60000);
        office.close();
        office.close();
        office.tell(0, RENT, 0, 0);
        office.close();
        return office;
    }

    private static void theFace() {
        due("NONE", TaperOffice.NONE, -1);
        due("ADULTS", ADULTS, 0);
        due("CHILDREN", CHILDREN, 1);
        due("RENT", RENT, 2);
        due("INCOME", INCOME, 3);
        due("SAVINGS", SAVINGS, 4);
        List<String> methods = new ArrayList<>();
        for (Method method : TaperOffice.class.getDeclaredMethods()) {
            if (!Modifier.isPrivate(method.getModifiers())) {
                methods.add(method.getName());
                due(method + " is public", Modifier.isPublic(method.getModifiers()), true);
                due(method + " is static", Modifier.isStatic(method.getModifiers()), false);
            }
        }
        Collections.sort(methods);
        List<String> wanted = Arrays.asList("add", "assessed", "close", "debt", "dispute", "due",
                "fact", "households", "month", "need", "paid", "payBack", "recovered", "taper",
                "tariff", "tell", "unassessed", "wouldPay");
        due("the methods " + methods + " are those of the face", methods.equals(wanted), true);
        int fields = 0;
        for (Field field : TaperOffice.class.getDeclaredFields()) {
            fields += Modifier.isPrivate(field.getModifiers()) ? 0 : 1;
        }
        due("fields of the face", fields, 6);
        Constructor<?>[] constructors = TaperOffice.class.getDeclaredConstructors();
        due("constructors", constructors.length, 1);
        due("the constructor is public", Modifier.isPublic(constructors[0].getModifiers()), true);
        due("the class is final", Modifier.isFinal(TaperOffice.class.getModifiers()), true);
    }

    private static void promise1NewObject() {
        TaperOffice office = new TaperOffice();
        due("households() of a new object", office.households(), 0);
        due("month() of a new object", office.month(), 0);
        for (int household = -1; household < 7; household++) {
            int none = household;
            refused("debt of a new object", TaperOffice::new, NO_SUCH, o -> o.debt(none));
        }
        due("close() without households", office.close(), 0);
    }

    private static void promise2Add() {
        TaperOffice office = new TaperOffice();
        for (int number = 0; number < 6; number++) {
            due("add()", office.add(), number);
            due("households() after add()", office.households(), number + 1);
            for (int month : new int[] {0, 1, 46, 47}) {
                due("ADULTS at first", office.fact(number, ADULTS, month), 1);
                due("CHILDREN at first", office.fact(number, CHILDREN, month), 0);
                due("RENT at first", office.fact(number, RENT, month), 0);
                due("INCOME at first", office.fact(number, INCOME, month), 0);
                due("SAVINGS at first", office.fact(number, SAVINGS, month), 0);
            }
            due("debt at first", office.debt(number), 0);
            due("recovered at first", office.recovered(number), 0);
        }
        refused("a 7th add()", () -> officeOf(6), STATE, o -> o.add());

        TaperOffice atEnd = officeOf(1);
        closeTill(atEnd, 47);
        due("add() in the month 47", atEnd.add(), 1);
        due("close() of the month 47", atEnd.close(), 60000);
        refused("add() behind the month 47", () -> officeAtItsEnd(1), STATE, o -> o.add());
        refused("a 7th add() at the end", () -> officeAtItsEnd(6), STATE, o -> o.add());
    }

    private static void promise2AddLater() {
        TaperOffice office = officeOf(1);
        closeTill(office, 3);
        office.add();
        office.tell(1, RENT, 0, 1000);
        due("due before it was added", office.due(1, 0), 31000);
        due("unassessed when added", office.unassessed(1), 0);
        due("wouldPay when added", office.wouldPay(1), 31000);
        due("close()", office.close(), 61000);
        for (int month = 0; month < 48; month++) {
            due("assessed of the later one", office.assessed(1, month), month == 3 ? 31000 : 0);
            due("paid of the later one", office.paid(1, month), month == 3 ? 31000 : 0);
        }
        office.tell(1, RENT, 0, 2000);
        due("unassessed since added", office.unassessed(1), 1000);
        due("close() again", office.close(), 30000 + 32000 + 1000);
        due("assessed in the first month", office.assessed(1, 3), 32000);
        due("assessed before the first month", office.assessed(1, 2), 0);
    }

    private static void promise3TellMonths() {
        TaperOffice office = officeOf(1);
        int[] days = {0, 1, 13, 14, 15, 16, 29, 30, 44, 45, 1409, 1410, 1424, 1425, 1439};
        int[] months = {0, 0, 0, 0, 1, 1, 1, 1, 1, 2, 47, 47, 47, 48, 48};
        for (int i = 0; i < days.length; i++) {
            int value = 100 + i;
            due("tell with day " + days[i], office.tell(0, RENT, days[i], value), months[i]);
            if (months[i] < 48) {
                due("rent of day " + days[i], office.fact(0, RENT, months[i]), value);
            }
        }
        due("rent of the month 47", office.fact(0, RENT, 47), 112);

        TaperOffice told = officeOf(2);
        due("tell of the month 5", told.tell(0, INCOME, 150, 500), 5);
        due("tell of the month 2", told.tell(0, INCOME, 60, 200), 2);
        int[] incomes = {0, 0, 200, 200, 200, 500, 500};
        for (int month = 0; month < incomes.length; month++) {
            due("income in " + month, told.fact(0, INCOME, month), incomes[month]);
            due("rent in " + month, told.fact(0, RENT, month), 0);
            due("income of another in " + month, told.fact(1, INCOME, month), 0);
        }
        due("tell of the month 2 anew", told.tell(0, INCOME, 45, 250), 2);
        due("tell of the month 5 anew", told.tell(0, INCOME, 135, 0), 5);
        due("tell of the month 0", told.tell(0, INCOME, 14, 7), 0);
        int[] incomesThen = {7, 7, 250, 250, 250, 0, 0};
        for (int month = 0; month < incomesThen.length; month++) {
            due("income then in " + month, told.fact(0, INCOME, month), incomesThen[month]);
        }
        due("income in 47", told.fact(0, INCOME, 47), 0);

        TaperOffice atEnd = officeAtItsEnd(1);
        due("tell behind the month 47", atEnd.tell(0, RENT, 1424, 5), 47);
        due("rent told behind the month 47", atEnd.fact(0, RENT, 47), 5);
    }

    private static void promise3TellRanges() {
        int[] least = {1, 0, 0, 0, 0};
        int[] most = {2, 9, 1000000, 1000000, 10000000};
        TaperOffice office = officeOf(1);
        for (int i = 0; i < 5; i++) {
            int fact = i;
            office.tell(0, fact, 30, most[fact]);
            due("the most of " + fact, office.fact(0, fact, 1), most[fact]);
            office.tell(0, fact, 30, least[fact]);
            due("the least of " + fact, office.fact(0, fact, 1), least[fact]);
            int[] outside = {least[fact] - 1, most[fact] + 1, -1,
                    Integer.MAX_VALUE, Integer.MIN_VALUE};
            for (int value : outside) {
                refused("tell of " + fact + " as " + value, () -> officeOf(1), ARGUMENT,
                        o -> o.tell(0, fact, 30, value));
            }
            for (int day : new int[] {-1, -30, 1440, 1441, Integer.MAX_VALUE, Integer.MIN_VALUE}) {
                refused("tell with day " + day, () -> officeOf(1), ARGUMENT,
                        o -> o.tell(0, fact, day, 1));
            }
        }
        for (int fact : NO_FACTS) {
            refused("tell of fact " + fact, () -> officeOf(1), ARGUMENT,
                    o -> o.tell(0, fact, 0, 1));
        }
        for (int household : NO_HOUSEHOLDS) {
            refused("tell of household " + household, () -> officeOf(1), NO_SUCH,
                    o -> o.tell(household, RENT, 0, 1));
        }
    }

    private static void promise3TellOrderOfExceptions() {
        Maker full = () -> officeWithChanges(100);
        refused("tell with all wrong", full, NO_SUCH, o -> o.tell(1, 5, 1440, -1));
        refused("tell, no household, full", full, NO_SUCH, o -> o.tell(-1, RENT, 0, 1));
        refused("tell, no fact, full", full, ARGUMENT, o -> o.tell(0, 5, 0, 1));
        refused("tell, no day, full", full, ARGUMENT, o -> o.tell(0, RENT, 1440, 1));
        refused("tell, no value, full", full, ARGUMENT, o -> o.tell(0, ADULTS, 0, 3));
        refused("tell, full", full, STATE, o -> o.tell(0, RENT, 0, 1));
    }

    private static void promise3TellHundredChanges() {
        TaperOffice office = officeWithChanges(99);
        office.add();
        for (int i = 0; i < 5; i++) {
            int rent = -1 - i;
            due("tell of no value", throwsArgument(office, o -> o.tell(0, RENT, 0, rent)), true);
        }
        due("the 100th change", office.tell(0, RENT, 0, 77), 0);
        due("rent of the 100th change", office.fact(0, RENT, 0), 77);
        due("a change of another household", office.tell(1, RENT, 0, 5), 0);

        Maker full = () -> officeWithChanges(100);
        refused("the 101st change", full, STATE, o -> o.tell(0, CHILDREN, 0, 3));
        refused("the 101st change, behind", full, STATE, o -> o.tell(0, RENT, 1439, 3));
        Maker fullAndClosed = () -> {
            TaperOffice closed = officeWithChanges(100);
            closed.close();
            return closed;
        };
        refused("the 101st change, closed", fullAndClosed, STATE, o -> o.tell(0, RENT, 30, 3));
    }

    /** Changes of each fact, half of them behind the month 47. */
    private static TaperOffice officeWithChanges(int changes) {
        TaperOffice office = officeOf(1);
        for (int i = 0; i < changes; i++) {
            office.tell(0, i % 5, i % 2 == 0 ? 1439 : 0, 1);
        }
        return office;
    }

    private static boolean throwsArgument(TaperOffice office, Call call) {
        try {
            call.run(office);
        } catch (IllegalArgumentException thrown) {
            return true;
        }
        return false;
    }

    private static void promise4Dispute() {
        TaperOffice office = officeOf(2);
        due("dispute at first", office.dispute(0, false), false);
        due("dispute still not", office.dispute(0, true), false);
        due("dispute does", office.dispute(0, true), true);
        due("dispute of another", office.dispute(1, true), false);
        due("dispute did", office.dispute(0, false), true);
        due("dispute no more", office.dispute(0, false), false);
        due("dispute of another stays", office.dispute(1, true), true);
        for (int household : new int[] {-1, 2, 5, 6, Integer.MAX_VALUE, Integer.MIN_VALUE}) {
            refused("dispute of " + household, () -> officeOf(2), NO_SUCH,
                    o -> o.dispute(household, true));
        }
        TaperOffice atEnd = officeAtItsEnd(1);
        due("dispute behind the month 47", atEnd.dispute(0, true), false);
        due("dispute behind the month 47 again", atEnd.dispute(0, false), true);
    }

    private static void promise4DisputeStopsRecoveryOnly() {
        TaperOffice office = officeWithDebt();
        due("debt", office.debt(0), 115500);
        due("wouldPay without dispute", office.wouldPay(0), 25500);
        office.dispute(0, true);
        due("wouldPay with dispute", office.wouldPay(0), 30000);
        due("close() with dispute", office.close(), 30000);
        due("debt with dispute", office.debt(0), 115500);
        due("recovered with dispute", office.recovered(0), 4500);
        due("payBack with dispute", office.payBack(0, 500), 115000);
        office.tell(0, RENT, 90, 10000);
        due("close() with arrears and dispute", office.close(), 40000);
        due("arrears lower the debt in dispute", office.debt(0), 105000);
        office.tell(0, RENT, 120, 0);
        due("close() with a higher debt and dispute", office.close(), 30000);
        due("the debt grows in dispute", office.debt(0), 115000);
        office.dispute(0, false);
        due("close() after dispute", office.close(), 25500);
        due("debt after dispute", office.debt(0), 110500);
    }

    private static void promise5PayBack() {
        TaperOffice office = officeWithDebt();
        due("payBack of 1", office.payBack(0, 1), 115499);
        due("recovered with what is paid back", office.recovered(0), 4501);
        due("payBack of all", office.payBack(0, 115499), 0);
        due("recovered then", office.recovered(0), 120000);
        due("close() after payBack", office.close(), 30000);
        due("unassessed after payBack", office.unassessed(0), 0);

        Maker owing = TaperOfficePromisesTest::officeWithDebt;
        Maker free = () -> officeOf(1);
        refused("payBack above the debt", owing, STATE, o -> o.payBack(0, 115501));
        refused("payBack of 1000000", owing, STATE, o -> o.payBack(0, 1000000));
        refused("payBack without debt", free, STATE, o -> o.payBack(0, 1));
        for (int cents : new int[] {0, -1, 1000001, Integer.MAX_VALUE, Integer.MIN_VALUE}) {
            refused("payBack of " + cents, owing, ARGUMENT, o -> o.payBack(0, cents));
            refused("payBack, no debt, " + cents, free, ARGUMENT, o -> o.payBack(0, cents));
            refused("payBack of no household", owing, NO_SUCH, o -> o.payBack(1, cents));
        }
        for (int household : NO_HOUSEHOLDS) {
            refused("payBack of household " + household, owing, NO_SUCH,
                    o -> o.payBack(household, 1));
        }
    }

    private static void promise5PayBackOfMuch() {
        TaperOffice office = officeWithHighDebt();
        due("a high debt", office.debt(0), 20 * 162000);
        due("payBack of the most", office.payBack(0, 1000000), 2240000);
        closeTill(office, TaperOffice.NONE);
        due("payBack behind the month 47", office.payBack(0, 1000000), 1240000);
        refused("payBack of 1000001", TaperOfficePromisesTest::officeWithHighDebt, ARGUMENT,
                o -> o.payBack(0, 1000001));
    }

    private static TaperOffice officeWithHighDebt() {
        TaperOffice office = officeOf(1);
        office.tell(0, RENT, 0, 60000);
        office.tell(0, CHILDREN, 0, 9);
        closeTill(office, 20);
        office.tell(0, SAVINGS, 0, 1600001);
        due("close() that makes a high debt", office.close(), 0);
        return office;
    }

    private static void promise6Households() {
        TaperOffice office = officeOf(3);
        due("households()", office.households(), 3);
        office.close();
        due("households() after close()", office.households(), 3);
        office.add();
        due("households() after add()", office.households(), 4);
        due("households() at the end", officeAtItsEnd(6).households(), 6);
    }

    private static void promise7Close() {
        TaperOffice office = officeOf(6);
        office.tell(1, ADULTS, 0, 2);
        office.tell(2, CHILDREN, 0, 1);
        office.tell(3, RENT, 0, 5);
        office.tell(4, INCOME, 0, 20010);
        office.tell(5, SAVINGS, 0, 600001);
        int sum = 30000 + 42000 + 38000 + 30005 + 29994 + 29500;
        for (int month = 0; month < 48; month++) {
            due("month() before close()", office.month(), month);
            due("close() of " + month, office.close(), sum);
        }
        refused("close() without households at the end", () -> officeAtItsEnd(0), STATE,
                o -> o.close());
        refused("close() at the end", () -> officeAtItsEnd(6), STATE, o -> o.close());
    }

    private static void promise7CloseAssessesAnew() {
        TaperOffice office = officeOf(2);
        closeTill(office, 4);
        office.tell(0, RENT, 30, 10000);
        office.tell(0, RENT, 60, 0);
        office.tell(0, INCOME, 90, 25000);
        due("more in one month, less in another", office.unassessed(0), 10000 - 3000);
        due("close()", office.close(), 7000 + 27000 + 30000);
        due("assessed in 1", office.assessed(0, 1), 40000);
        due("assessed in 3", office.assessed(0, 3), 27000);
        due("debt, as arrears are more", office.debt(0), 0);
        office.tell(0, INCOME, 0, 50000);
        office.tell(1, INCOME, 120, 50000);
        due("less of one", office.unassessed(0), -3 * 18000);
        due("less of another", office.unassessed(1), -18000);
        due("close() anew", office.close(), 27000 - 4050 + 12000 - 1800);
        due("debt of one", office.debt(0), 54000 - 4050);
        due("debt of another", office.debt(1), 18000 - 1800);
        due("all is assessed", office.unassessed(0) + office.unassessed(1), 0);
    }

    private static void promise7RecoveryCeilings() {
        // An award of 10000 besides no income: nothing is above the least income.
        ceiling(10000, 0, 50000, 0);
        ceiling(10000, 14999, 50000, 0);
        ceiling(10000, 15000, 50000, 0);
        ceiling(10000, 15001, 50000, 1);
        ceiling(10000, 16499, 50000, 1499);
        ceiling(10000, 16500, 50000, 1500);
        ceiling(10000, 16501, 50000, 1500);
        ceiling(10000, 20000, 50000, 1500);
        ceiling(10006, 20000, 50000, 1500);
        ceiling(10007, 20000, 50000, 1501);
        ceiling(10007, 15000, 50000, 7);
        ceiling(10000, 20000, 1499, 1499);
        ceiling(10000, 20000, 1500, 1500);
        ceiling(10000, 20000, 1501, 1500);
        ceiling(10000, 15001, 1, 1);
        ceiling(30000, 0, 50000, 4500);
        ceiling(29999, 0, 50000, 4499);
        ceiling(29411, 0, 50000, 4411);
        ceiling(29412, 0, 50000, 4411);
        ceiling(29413, 0, 50000, 4411);
        ceiling(90000, 0, 13501, 13500);
        ceiling(0, 1000000, 50000, 0);
    }

    /** An award and an income in the month 1, ahead of a debt of the month 0. */
    private static void ceiling(int award, int income, int owed, int want) {
        String what = "award " + award + ", income " + income + ", debt " + owed + ": ";
        TaperOffice office = officeOf(1);
        office.tell(0, RENT, 0, 60000);
        office.close();
        office.dispute(0, true);
        office.tell(0, SAVINGS, 0, 1600001);
        office.tell(0, SAVINGS, 60, 0);
        office.close();
        office.payBack(0, 90000 - owed);
        office.dispute(0, false);
        office.tell(0, RENT, 60, 0);
        if (award == 0) {
            office.tell(0, SAVINGS, 60, 1600001);
        } else if (award < 30000) {
            int steps = (30000 - award + 499) / 500;
            office.tell(0, SAVINGS, 60, 600000 + steps * 25000);
            office.tell(0, RENT, 60, award - (30000 - steps * 500));
        } else {
            office.tell(0, RENT, 60, award - 30000);
        }
        office.tell(0, INCOME, 60, income);
        due(what + "due", office.due(0, 2), award);
        due(what + "debt", office.debt(0), owed);
        due(what + "wouldPay", office.wouldPay(0), award - want);
        due(what + "close()", office.close(), award - want);
        due(what + "debt then", office.debt(0), owed - want);
        due(what + "recovered", office.recovered(0), 90000 - owed + want);
        due(what + "assessed", office.assessed(0, 2), award);
    }

    private static void promise7Arrears() {
        arrears(115499, 1, 0);
        arrears(115500, 0, 0);
        arrears(115501, 0, 1);
        arrears(116500, 0, 1000);
        arrears(1, 115499, 0);
    }

    /** Arrears ahead of a debt of 115500, told by the rent of the months 0 to 2. */
    private static void arrears(int more, int debtLeft, int paidBesides) {
        TaperOffice office = officeWithDebt();
        office.tell(0, RENT, 0, Math.min(more, 60000));
        office.tell(0, RENT, 30, Math.max(0, Math.min(more - 60000, 60000)));
        office.tell(0, RENT, 60, 0);
        due("unassessed", office.unassessed(0), more);
        int recovered = Math.min(debtLeft, 4500);
        due("wouldPay with arrears of " + more, office.wouldPay(0),
                30000 - recovered + paidBesides);
        due("close() with arrears of " + more, office.close(), 30000 - recovered + paidBesides);
        due("debt after arrears of " + more, office.debt(0), debtLeft - recovered);
        due("recovered after arrears of " + more, office.recovered(0), 4500 + recovered);
    }

    private static void promise8Month() {
        TaperOffice office = new TaperOffice();
        for (int month = 0; month < 48; month++) {
            due("month()", office.month(), month);
            office.close();
        }
        due("month() behind the month 47", office.month(), TaperOffice.NONE);
    }

    private static void promise9Fact() {
        TaperOffice office = officeOf(1);
        office.tell(0, ADULTS, 60, 2);
        office.tell(0, CHILDREN, 75, 3);
        office.tell(0, RENT, 90, 70000);
        office.tell(0, INCOME, 120, 1);
        office.tell(0, SAVINGS, 1424, 10000000);
        int[] from = {2, 3, 3, 4, 47};
        int[] before = {1, 0, 0, 0, 0};
        int[] then = {2, 3, 70000, 1, 10000000};
        for (int fact = 0; fact < 5; fact++) {
            for (int month = 0; month < 48; month++) {
                due("fact " + fact + " in " + month, office.fact(0, fact, month),
                        month < from[fact] ? before[fact] : then[fact]);
            }
        }
        Maker one = () -> officeOf(1);
        for (int fact : NO_FACTS) {
            refused("fact " + fact, one, ARGUMENT, o -> o.fact(0, fact, 0));
            refused("fact " + fact + " of no month", one, NO_SUCH, o -> o.fact(0, fact, 48));
            refused("fact " + fact + " of nobody", one, NO_SUCH, o -> o.fact(1, fact, 0));
        }
        for (int month : NO_MONTHS) {
            refused("fact in " + month, one, NO_SUCH, o -> o.fact(0, RENT, month));
        }
        for (int household : NO_HOUSEHOLDS) {
            refused("fact of " + household, one, NO_SUCH, o -> o.fact(household, RENT, 0));
        }
    }

    private static void promise10Need() {
        TaperOffice office = officeOf(1);
        due("need at first", office.need(0, 0), 30000);
        office.tell(0, ADULTS, 30, 2);
        due("need before a second adult", office.need(0, 0), 30000);
        due("need with a second adult", office.need(0, 1), 42000);
        for (int children = 0; children <= 9; children++) {
            office.tell(0, CHILDREN, 30, children);
            due("need with children", office.need(0, 1), 42000 + 8000 * children);
        }
        int[] rents = {1, 59999, 60000, 60001, 1000000};
        int[] counted = {1, 59999, 60000, 60000, 60000};
        for (int i = 0; i < rents.length; i++) {
            office.tell(0, RENT, 30, rents[i]);
            due("need with rent", office.need(0, 47), 114000 + counted[i]);
        }
        office.tell(0, INCOME, 30, 1000000);
        office.tell(0, SAVINGS, 30, 10000000);
        due("need besides income and savings", office.need(0, 1), 174000);
    }

    private static void promise11Taper() {
        TaperOffice office = officeOf(1);
        int[] incomes = {0, 19999, 20000, 20001, 20002, 20003, 20004, 20005, 20010, 1000000};
        int[] tapers = {0, 0, 0, 0, 1, 1, 2, 3, 6, 588000};
        for (int i = 0; i < incomes.length; i++) {
            office.tell(0, INCOME, 60, incomes[i]);
            due("taper of " + incomes[i], office.taper(0, 2), tapers[i]);
            due("taper in 47 of " + incomes[i], office.taper(0, 47), tapers[i]);
            due("taper before", office.taper(0, 1), 0);
        }
    }

    private static void promise12Tariff() {
        TaperOffice office = officeOf(1);
        int[] savings = {0, 599999, 600000, 600001, 624999, 625000, 625001, 650000,
                1599999, 1600000, 1600001, 9975000, 9975001, 10000000};
        int[] tariffs = {0, 0, 0, 500, 500, 500, 1000, 1000,
                20000, 20000, 20500, 187500, 188000, 188000};
        for (int i = 0; i < savings.length; i++) {
            office.tell(0, SAVINGS, 60, savings[i]);
            due("tariff of " + savings[i], office.tariff(0, 2), tariffs[i]);
            due("tariff in 47 of " + savings[i], office.tariff(0, 47), tariffs[i]);
            due("tariff before", office.tariff(0, 1), 0);
        }
    }

    private static void promise13Due() {
        TaperOffice office = officeOf(1);
        due("due at first", office.due(0, 0), 30000);
        int[] incomes = {20001, 20002, 69166, 69167, 69168, 69169, 70000, 70001, 1000000};
        int[] dues = {30000, 29999, 501, 500, 500, 0, 0, 0, 0};
        for (int i = 0; i < incomes.length; i++) {
            office.tell(0, INCOME, 0, incomes[i]);
            due("due with income " + incomes[i], office.due(0, 0), dues[i]);
        }
        office.tell(0, INCOME, 0, 40000);
        office.tell(0, SAVINGS, 0, 700000);
        due("due with taper and tariff", office.due(0, 0), 30000 - 12000 - 2000);
        office.tell(0, INCOME, 0, 0);
        office.tell(0, ADULTS, 0, 2);
        office.tell(0, CHILDREN, 0, 9);
        office.tell(0, RENT, 0, 1000000);
        due("due with a high need", office.due(0, 0), 172000);
        office.tell(0, SAVINGS, 0, 1600000);
        due("due with savings of 1600000", office.due(0, 0), 154000);
        office.tell(0, SAVINGS, 0, 1600001);
        due("due with savings of 1600001", office.due(0, 0), 0);
        office.tell(0, SAVINGS, 0, 0);
        office.tell(0, SAVINGS, 1410, 10000000);
        due("due in 46", office.due(0, 46), 174000);
        due("due in 47", office.due(0, 47), 0);
    }

    private static void promise14Unassessed() {
        TaperOffice office = officeOf(1);
        office.tell(0, RENT, 0, 100);
        due("unassessed in the month 0", office.unassessed(0), 0);
        office.close();
        due("unassessed after close()", office.unassessed(0), 0);
        office.add();
        office.tell(0, RENT, 0, 300);
        office.tell(1, RENT, 0, 300);
        due("unassessed with more rent", office.unassessed(0), 200);
        due("unassessed of one just added", office.unassessed(1), 0);
        office.close();
        office.tell(0, RENT, 30, 0);
        office.tell(1, RENT, 0, 0);
        due("unassessed with less rent", office.unassessed(0), -300);
        due("unassessed since it was added", office.unassessed(1), -300);
        office.tell(0, RENT, 60, 5000);
        due("unassessed without the current month", office.unassessed(0), -300);
        closeTill(office, TaperOffice.NONE);
        due("unassessed at the end", office.unassessed(0), 0);
        office.tell(0, RENT, 1410, 6000);
        office.tell(1, CHILDREN, 0, 1);
        due("unassessed of the month 47", office.unassessed(0), 1000);
        due("unassessed of 47 months", office.unassessed(1), 47 * 8000);
    }

    private static void promise15WouldPay() {
        TaperOffice office = officeOf(2);
        due("wouldPay", office.wouldPay(0), 30000);
        office.tell(0, RENT, 15, 4000);
        due("wouldPay ahead of a change", office.wouldPay(0), 30000);
        office.close();
        due("wouldPay behind a change", office.wouldPay(0), 34000);
        office.tell(0, RENT, 0, 1000);
        due("wouldPay with arrears", office.wouldPay(0), 35000);
        due("wouldPay asked again", office.wouldPay(0), 35000);
        due("debt after wouldPay", office.debt(0), 0);
        due("assessed after wouldPay", office.assessed(0, 1), 0);
        due("wouldPay of another", office.wouldPay(1), 30000);
        due("close() pays that", office.close(), 65000);
        closeTill(office, 47);
        due("wouldPay in the month 47", office.wouldPay(0), 34000);
        office.close();
        due("wouldPay behind the month 47", office.wouldPay(0), 0);
        office.tell(0, RENT, 0, 60000);
        due("wouldPay behind the month 47, with arrears", office.wouldPay(0), 0);
    }

    private static void promise16Assessed() {
        TaperOffice office = officeOf(1);
        due("assessed before close()", office.assessed(0, 0), 0);
        office.close();
        due("assessed after close()", office.assessed(0, 0), 30000);
        due("assessed of the current month", office.assessed(0, 1), 0);
        office.tell(0, RENT, 0, 1000);
        due("assessed before it is assessed anew", office.assessed(0, 0), 30000);
        office.close();
        due("assessed anew", office.assessed(0, 0), 31000);
        due("assessed at first", office.assessed(0, 1), 31000);
        due("assessed of the month 47", office.assessed(0, 47), 0);
        closeTill(office, TaperOffice.NONE);
        due("assessed of the month 47 then", office.assessed(0, 47), 31000);
        office.tell(0, RENT, 0, 0);
        due("assessed stays behind the month 47", office.assessed(0, 0), 31000);

        TaperOffice owing = officeWithDebt();
        due("assessed is not less what is recovered", owing.assessed(0, 2), 30000);
    }

    private static void promise17Paid() {
        TaperOffice office = officeOf(1);
        due("paid before close()", office.paid(0, 0), 0);
        office.close();
        office.tell(0, RENT, 0, 1000);
        due("paid", office.paid(0, 0), 30000);
        due("paid of the current month", office.paid(0, 1), 0);
        office.close();
        due("paid stays", office.paid(0, 0), 30000);
        due("paid with arrears", office.paid(0, 1), 32000);
        office.add();
        office.tell(1, RENT, 0, 1);
        office.close();
        due("paid before it was added", office.paid(1, 1), 0);
        due("paid since it was added", office.paid(1, 2), 30001);
        closeTill(office, TaperOffice.NONE);
        due("paid of the month 47", office.paid(0, 47), 31000);
        due("paid less what is recovered", officeWithDebt().paid(0, 2), 25500);
    }

    private static void promise18Debt() {
        TaperOffice office = officeOf(2);
        office.tell(0, RENT, 0, 20000);
        office.close();
        office.tell(0, RENT, 0, 0);
        due("debt before it is assessed anew", office.debt(0), 0);
        office.close();
        due("debt", office.debt(0), 15500);
        due("debt of another", office.debt(1), 0);
        office.close();
        due("debt after recovery", office.debt(0), 11000);
        due("payBack", office.payBack(0, 6600), 4400);
        due("debt after payBack", office.debt(0), 4400);
        office.tell(0, RENT, 60, 100);
        due("wouldPay with the last debt", office.wouldPay(0), 30100 - 4300);
        office.close();
        due("debt paid off", office.debt(0), 0);
        due("close() without debt", office.close(), 60100);
        due("recovered in all", office.recovered(0), 4500 + 4500 + 6600 + 4300);
    }

    private static void promise19Recovered() {
        TaperOffice office = officeWithDebt();
        due("recovered by close()", office.recovered(0), 4500);
        office.payBack(0, 500);
        due("recovered and paid back", office.recovered(0), 5000);
        office.tell(0, RENT, 60, 50000);
        office.tell(0, RENT, 90, 0);
        due("close() with arrears", office.close(), 25500);
        due("debt after arrears", office.debt(0), 115000 - 50000 - 4500);
        due("recovered without arrears", office.recovered(0), 9500);
        office.dispute(0, true);
        office.close();
        due("recovered in dispute", office.recovered(0), 9500);
        office.add();
        due("recovered of another", office.recovered(1), 0);
    }

    private static void questionsOfMonthsRefuse() {
        for (int month : NO_MONTHS) {
            refuseOfMonth(0, month);
        }
        for (int household : NO_HOUSEHOLDS) {
            refuseOfMonth(household, 0);
            refuseOfMonth(household, 48);
        }
    }

    private static void refuseOfMonth(int household, int month) {
        Maker office = TaperOfficePromisesTest::officeWithDebt;
        String where = "(" + household + ", " + month + ")";
        refused("need" + where, office, NO_SUCH, o -> o.need(household, month));
        refused("taper" + where, office, NO_SUCH, o -> o.taper(household, month));
        refused("tariff" + where, office, NO_SUCH, o -> o.tariff(household, month));
        refused("due" + where, office, NO_SUCH, o -> o.due(household, month));
        refused("assessed" + where, office, NO_SUCH, o -> o.assessed(household, month));
        refused("paid" + where, office, NO_SUCH, o -> o.paid(household, month));
    }

    private static void questionsOfHouseholdsRefuse() {
        refuseOfHouseholds(TaperOfficePromisesTest::officeWithDebt);
        refuseOfHouseholds(() -> officeAtItsEnd(1));
    }

    private static void refuseOfHouseholds(Maker office) {
        for (int household : NO_HOUSEHOLDS) {
            String where = "(" + household + ")";
            refused("unassessed" + where, office, NO_SUCH, o -> o.unassessed(household));
            refused("wouldPay" + where, office, NO_SUCH, o -> o.wouldPay(household));
            refused("debt" + where, office, NO_SUCH, o -> o.debt(household));
            refused("recovered" + where, office, NO_SUCH, o -> o.recovered(household));
        }
    }

    private static void objectsAreApart() {
        TaperOffice one = officeWithDebt();
        TaperOffice other = officeOf(1);
        due("month() of another object", other.month(), 0);
        due("debt of another object", other.debt(0), 0);
        other.tell(0, RENT, 0, 9);
        due("rent of the first object", one.fact(0, RENT, 0), 0);
    }
}
