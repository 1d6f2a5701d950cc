/** A test for each sentence of the promises 1 to 19 that names a boundary or a refused call. */
public final class TaperOfficeBoundariesTest {
    private static final int ADULTS = TaperOffice.ADULTS;
    private static final int CHILDREN = TaperOffice.CHILDREN;
    private static final int RENT = TaperOffice.RENT;
    private static final int INCOME = TaperOffice.INCOME;
    private static final int SAVINGS = TaperOffice.SAVINGS;

    private static final String NO_HOUSEHOLD =
            "Throws `IndexOutOfBoundsException` if there is no such household";
    private static final String NO_HOUSEHOLD_OR_MONTH =
            "Throws `IndexOutOfBoundsException` if there is no such household or month";
    private static final String FACTS = "`fact`: ADULTS, CHILDREN, RENT, INCOME or SAVINGS";
    private static final String MONTHS = "`month`: 0 to 47";

    private final Sentences sentences = new Sentences();

    public static void main(String[] args) {
        TaperOfficeBoundariesTest test = new TaperOfficeBoundariesTest();
        test.numbersOfHouseholds();
        test.newObject();
        test.addFromTheCurrentMonth();
        test.addReturnsItsNumber();
        test.addRefused();
        test.tellFacts();
        test.tellDays();
        test.tellValues();
        test.tellReturnsTheMonth();
        test.tellRefusesNoHousehold();
        test.tellRefusesArguments();
        test.tellRefusesMoreThan100();
        test.tellCountsOfEachHousehold();
        test.disputeOrStop();
        test.disputeReturnsWhetherItDid();
        test.disputeRefused();
        test.payBackSomeOrAll();
        test.payBackCents();
        test.payBackReturnsTheDebt();
        test.payBackRefusesNoHousehold();
        test.payBackRefusesCents();
        test.payBackRefusesMoreThanTheDebt();
        test.householdsCount();
        test.closeOfEachMonth();
        test.closeReturnsAllTogether();
        test.closeRefused();
        test.monthOrNone();
        test.factInAMonth();
        test.factOfEachFact();
        test.factMonths();
        test.factRefusesNoHouseholdOrMonth();
        test.factRefusesNoFact();
        test.needMonths();
        test.needRefused();
        test.taperMonths();
        test.taperRefused();
        test.tariffMonths();
        test.tariffRefused();
        test.dueMonths();
        test.dueRefused();
        test.unassessedSinceAdded();
        test.unassessedRefused();
        test.wouldPayIfClosedNow();
        test.wouldPayWithoutMonth();
        test.wouldPayRefused();
        test.assessedMonths();
        test.assessedOrZero();
        test.assessedRefused();
        test.paidMonths();
        test.paidOrZero();
        test.paidRefused();
        test.debtOfAHousehold();
        test.debtRefused();
        test.recoveredSoFar();
        test.recoveredRefused();
        test.sentences.end();
    }

    private void name(String promise, String words) {
        sentences.name(promise, words);
    }

    private void due(String what, long got, long want) {
        sentences.due(what, got, want);
    }

    private void due(String what, boolean got, boolean want) {
        sentences.due(what, got, want);
    }

    private void refused(String what, Offices.Maker maker, Class<?> want, Sentences.Call call) {
        sentences.refused(what, maker, want, call);
    }

    // ---- the number of a household, in all promises that take one

    private void numbersOfHouseholds() {
        String words = "`household`: a household";
        TaperOffice office = Offices.of(6);
        for (int i = 0; i < 6; i++) {
            int each = i + 1;
            name("Promise 3", words);
            due("tell of " + i, office.tell(i, RENT, 14 * i / 5, 10 * each), 0);
            office.tell(i, INCOME, 0, 20000 + 10 * each);
            office.tell(i, SAVINGS, 0, 575001 + 25000 * each);
            name("Promise 9", words);
            due("fact of " + i, office.fact(i, INCOME, 0), 20000 + 10 * each);
            name("Promise 10", words);
            due("need of " + i, office.need(i, 0), 30000 + 10 * each);
            name("Promise 11", words);
            due("taper of " + i, office.taper(i, 0), 6 * each);
            name("Promise 12", words);
            due("tariff of " + i, office.tariff(i, 0), 500 * each);
            name("Promise 13", words);
            due("due of " + i, office.due(i, 0), 30000 - 496 * each);
            name("Promise 15", words);
            due("wouldPay of " + i, office.wouldPay(i), 30000 - 496 * each);
        }
        office.close();
        for (int i = 0; i < 6; i++) {
            int each = i + 1;
            office.tell(i, RENT, 0, 0);
            name("Promise 4", words);
            due("dispute of " + i, office.dispute(i, true), false);
            name("Promise 14", words);
            due("unassessed of " + i, office.unassessed(i), -10 * each);
            name("Promise 16", words);
            due("assessed for " + i, office.assessed(i, 0), 30000 - 496 * each);
            name("Promise 17", words);
            due("paid to " + i, office.paid(i, 0), 30000 - 496 * each);
        }
        office.close();
        for (int i = 0; i < 6; i++) {
            int each = i + 1;
            name("Promise 18", words);
            due("debt of " + i, office.debt(i), 10 * each);
            name("Promise 5", words);
            due("payBack of " + i, office.payBack(i, each), 9 * each);
            name("Promise 19", words);
            due("recovered of " + i, office.recovered(i), each);
        }
    }

    // ---- Promise 1: A new object

    private void newObject() {
        name("Promise 1", "Begins without households, in the month 0.");
        TaperOffice office = new TaperOffice();
        due("households()", office.households(), 0);
        due("month()", office.month(), 0);
        for (int none : Offices.noHouseholds(0)) {
            refused("debt of " + none, TaperOffice::new, Sentences.NO_SUCH, o -> o.debt(none));
        }
        due("close()", office.close(), 0);
        TaperOffice used = Offices.ended(6);
        due("month() of a used one", used.month(), TaperOffice.NONE);
        TaperOffice another = new TaperOffice();
        due("households() of another", another.households(), 0);
        due("month() of another", another.month(), 0);
    }

    // ---- Promise 2: add

    private void addFromTheCurrentMonth() {
        name("Promise 2", "Adds a household, from the current month on.");
        for (int month : new int[] {0, 1, 46, 47}) {
            TaperOffice office = Offices.inMonth(0, month);
            due("add() in " + month, office.add(), 0);
            due("unassessed at first", office.unassessed(0), 0);
            due("close() of " + month, office.close(), 30000);
            for (int other = 0; other < 48; other++) {
                int paid = other == month ? 30000 : 0;
                due("paid in " + other, office.paid(0, other), paid);
                due("assessed for " + other, office.assessed(0, other), paid);
            }
        }
    }

    private void addReturnsItsNumber() {
        name("Promise 2", "Returns its number.");
        TaperOffice atOnce = new TaperOffice();
        TaperOffice byMonths = new TaperOffice();
        for (int number = 0; number < 6; number++) {
            due("add() in the month 0", atOnce.add(), number);
            due("add() in the month " + number, byMonths.add(), number);
            byMonths.close();
        }
    }

    private void addRefused() {
        name("Promise 2", "Throws `IllegalStateException` if there are 6, or there is no current"
                + " month");
        due("a 6th", Offices.of(5).add(), 5);
        due("a 6th in the month 47", Offices.inMonth(5, 47).add(), 5);
        due("a first in the month 47", Offices.inMonth(0, 47).add(), 0);
        refused("a 7th", () -> Offices.of(6), Sentences.STATE, o -> o.add());
        refused("a 7th in the month 47", () -> Offices.inMonth(6, 47), Sentences.STATE,
                o -> o.add());
        for (int households : new int[] {0, 1, 5, 6}) {
            refused("add() to " + households + " behind the month 47",
                    () -> Offices.ended(households), Sentences.STATE, o -> o.add());
        }
        TaperOffice again = Offices.of(6);
        for (int i = 0; i < 3; i++) {
            due("add() again threw", Sentences.thrownBy(again, o -> o.add()) == Sentences.STATE,
                    true);
        }
        due("households() then", again.households(), 6);
    }

    // ---- Promise 3: tell

    private void tellFacts() {
        name("Promise 3", FACTS);
        for (int fact = 0; fact < 5; fact++) {
            TaperOffice office = Offices.of(1);
            due("tell of the fact " + fact, office.tell(0, fact, 0, 2), 0);
            for (int other = 0; other < 5; other++) {
                int wanted = other == fact ? 2 : other == ADULTS ? 1 : 0;
                due("the fact " + other, office.fact(0, other, 0), wanted);
            }
        }
        for (int none : Offices.NO_FACTS) {
            refused("tell of the fact " + none, () -> Offices.of(1), Sentences.ARGUMENT,
                    o -> o.tell(0, none, 0, 1));
        }
    }

    private void tellDays() {
        name("Promise 3", "`day`: 0 to 1439");
        TaperOffice office = Offices.of(1);
        due("the day 0", office.tell(0, RENT, 0, 5), 0);
        due("rent in the month 0", office.fact(0, RENT, 0), 5);
        due("the day 1439", office.tell(0, RENT, 1439, 6), 48);
        due("rent in the month 47", office.fact(0, RENT, 47), 5);
        for (int none : Offices.NO_DAYS) {
            refused("the day " + none, () -> Offices.of(1), Sentences.ARGUMENT,
                    o -> o.tell(0, RENT, none, 6));
            refused("the day " + none + " at the end", () -> Offices.ended(1),
                    Sentences.ARGUMENT, o -> o.tell(0, RENT, none, 6));
        }
    }

    private void tellValues() {
        name("Promise 3", "`value`: its value, in the range of the fact");
        for (int i = 0; i < 5; i++) {
            int fact = i;
            for (int value : new int[] {Offices.LEAST_VALUES[fact], Offices.MOST_VALUES[fact]}) {
                TaperOffice office = Offices.of(1);
                due("tell of " + fact + " as " + value, office.tell(0, fact, 1410, value), 47);
                due("the fact " + fact, office.fact(0, fact, 47), value);
            }
            for (int none : Offices.noValues(fact)) {
                refused("tell of " + fact + " as " + none, () -> Offices.of(1),
                        Sentences.ARGUMENT, o -> o.tell(0, fact, 1410, none));
            }
        }
        // In the range of another fact.
        refused("0 adults", () -> Offices.of(1), Sentences.ARGUMENT,
                o -> o.tell(0, ADULTS, 0, 0));
        refused("3 adults", () -> Offices.of(1), Sentences.ARGUMENT,
                o -> o.tell(0, ADULTS, 0, 3));
        refused("10 children", () -> Offices.of(1), Sentences.ARGUMENT,
                o -> o.tell(0, CHILDREN, 0, 10));
        refused("rent of 10000000", () -> Offices.of(1), Sentences.ARGUMENT,
                o -> o.tell(0, RENT, 0, 10000000));
        refused("income of 10000000", () -> Offices.of(1), Sentences.ARGUMENT,
                o -> o.tell(0, INCOME, 0, 10000000));
    }

    private void tellReturnsTheMonth() {
        name("Promise 3", "Returns the month from which on it counts; 48 if that is behind the"
                + " month 47.");
        int[] days = {0, 14, 15, 44, 45, 1394, 1395, 1424, 1425, 1426, 1438, 1439};
        int[] months = {0, 0, 1, 1, 2, 46, 47, 47, 48, 48, 48, 48};
        for (int i = 0; i < days.length; i++) {
            int day = days[i];
            due("tell with day " + day, Offices.of(1).tell(0, RENT, day, 1), months[i]);
            due("tell with day " + day + " at the end", Offices.ended(6).tell(5, RENT, day, 1),
                    months[i]);
        }
        TaperOffice office = Offices.inMonth(1, 47);
        office.tell(0, RENT, 1425, 5);
        due("rent in 47 told behind it", office.fact(0, RENT, 47), 0);
        due("close() with a change behind it", office.close(), 30000);
    }

    private void tellRefusesNoHousehold() {
        name("Promise 3", NO_HOUSEHOLD);
        sentences.refusesNoHousehold("tell", (o, household) -> o.tell(household, RENT, 0, 1));
        sentences.refusesNoHousehold("tell with all wrong",
                (o, household) -> o.tell(household, -1, -1, -1));
    }

    private void tellRefusesArguments() {
        name("Promise 3", "Throws `IllegalArgumentException` if fact, day or value is out of"
                + " range");
        for (Offices.Maker state : Offices.statesWithHouseholds()) {
            for (int none : Offices.NO_FACTS) {
                refused("fact " + none, state, Sentences.ARGUMENT, o -> o.tell(0, none, 0, 1));
            }
            for (int none : Offices.NO_DAYS) {
                refused("day " + none, state, Sentences.ARGUMENT, o -> o.tell(0, RENT, none, 1));
            }
            for (int i = 0; i < 5; i++) {
                int fact = i;
                for (int none : Offices.noValues(fact)) {
                    refused("fact " + fact + " as " + none, state, Sentences.ARGUMENT,
                            o -> o.tell(0, fact, 0, none));
                }
            }
        }
    }

    private void tellRefusesMoreThan100() {
        name("Promise 3", "Throws `IllegalStateException` if 100 changes were told of the"
                + " household");
        due("the 1st change", Offices.of(1).tell(0, RENT, 0, 7), 0);
        TaperOffice office = Offices.changed(98);
        due("the 99th change", office.tell(0, RENT, 0, 6), 0);
        due("the 100th change", office.tell(0, RENT, 0, 7), 0);
        due("rent by the 100th change", office.fact(0, RENT, 0), 7);
        Offices.Maker full = () -> Offices.changed(100);
        for (int i = 0; i < 5; i++) {
            int fact = i;
            refused("the 101st change, of " + fact, full, Sentences.STATE,
                    o -> o.tell(0, fact, 0, 1));
        }
        refused("the 101st change, behind the month 47", full, Sentences.STATE,
                o -> o.tell(0, RENT, 1439, 1));
        refused("the 101st change, with what holds already", full, Sentences.STATE,
                o -> o.tell(0, ADULTS, 0, 1));
        refused("the 101st change, a month later", () -> {
            TaperOffice closed = Offices.changed(100);
            closed.close();
            return closed;
        }, Sentences.STATE, o -> o.tell(0, RENT, 30, 1));
        sameChangesCount();
        refusedChangesDoNotCount();
    }

    private void sameChangesCount() {
        TaperOffice office = Offices.of(1);
        for (int i = 0; i < 100; i++) {
            due("the same change again", office.tell(0, ADULTS, 1439, 1), 48);
        }
        due("the 101st of the same threw",
                Sentences.thrownBy(office, o -> o.tell(0, ADULTS, 1439, 1)) == Sentences.STATE,
                true);
    }

    private void refusedChangesDoNotCount() {
        TaperOffice office = Offices.changed(99);
        for (int i = 0; i < 50; i++) {
            due("a refused change threw",
                    Sentences.thrownBy(office, o -> o.tell(0, CHILDREN, 0, 10))
                            == Sentences.ARGUMENT, true);
        }
        due("the 100th change after refused ones", office.tell(0, RENT, 0, 7), 0);
    }

    private void tellCountsOfEachHousehold() {
        name("Promise 3", "if 100 changes were told of the household");
        TaperOffice office = Offices.changed(100);
        office.add();
        for (int i = 0; i < 100; i++) {
            due("a change of another", office.tell(1, RENT, 0, i), 0);
        }
        due("the 101st of another threw",
                Sentences.thrownBy(office, o -> o.tell(1, RENT, 0, 1)) == Sentences.STATE, true);
        due("rent of another", office.fact(1, RENT, 0), 99);
        due("rent of the first", office.fact(0, RENT, 0), 1);
    }

    // ---- Promise 4: dispute

    private void disputeOrStop() {
        name("Promise 4", "Lets a household dispute its debt, or stop that.");
        TaperOffice office = Offices.owing(5000);
        office.dispute(0, true);
        due("wouldPay in dispute", office.wouldPay(0), 30000);
        office.dispute(0, false);
        due("wouldPay with that stopped", office.wouldPay(0), 25500);
        due("dispute without debt", Offices.of(1).dispute(0, true), false);
    }

    private void disputeReturnsWhetherItDid() {
        name("Promise 4", "Returns whether it did.");
        TaperOffice office = Offices.of(6);
        due("at first, stops", office.dispute(0, false), false);
        due("still not, begins", office.dispute(0, true), false);
        due("did, goes on", office.dispute(0, true), true);
        due("another at first", office.dispute(5, true), false);
        Offices.closeTill(office, TaperOffice.NONE);
        due("did, stops behind the month 47", office.dispute(0, false), true);
        due("did no more", office.dispute(0, false), false);
        due("another did", office.dispute(5, false), true);
    }

    private void disputeRefused() {
        name("Promise 4", NO_HOUSEHOLD);
        sentences.refusesNoHousehold("dispute", (o, household) -> o.dispute(household, true));
        sentences.refusesNoHousehold("no dispute", (o, household) -> o.dispute(household, false));
    }

    // ---- Promise 5: payBack

    private void payBackSomeOrAll() {
        name("Promise 5", "Lets a household pay back some of its debt.");
        TaperOffice office = Offices.owing(5000);
        due("payBack of 1", office.payBack(0, 1), 4999);
        due("payBack of all but 1", office.payBack(0, 4998), 1);
        due("wouldPay with a debt of 1", office.wouldPay(0), 29999);
        due("payBack of the last", office.payBack(0, 1), 0);
        due("wouldPay without debt", office.wouldPay(0), 30000);
        due("unassessed stays", office.unassessed(0), 0);
    }

    private void payBackCents() {
        name("Promise 5", "`cents`: 1 to 1000000");
        TaperOffice office = Offices.richest();
        office.tell(0, SAVINGS, 0, 10000000);
        office.close();
        due("payBack of 1", office.payBack(0, 1), 8177999);
        due("payBack of 999999", office.payBack(0, 999999), 7178000);
        due("payBack of 1000000", office.payBack(0, 1000000), 6178000);
        due("payBack of 1000001 threw",
                Sentences.thrownBy(office, o -> o.payBack(0, 1000001)) == Sentences.ARGUMENT,
                true);
        due("debt then", office.debt(0), 6178000);
    }

    private void payBackReturnsTheDebt() {
        name("Promise 5", "Returns its debt then.");
        TaperOffice office = Offices.richest();
        office.tell(0, SAVINGS, 0, 10000000);
        office.close();
        int debt = 8178000;
        for (int i = 0; i < 8; i++) {
            debt -= 1000000;
            due("payBack", office.payBack(0, 1000000), debt);
            due("debt", office.debt(0), debt);
        }
        due("payBack of the rest", office.payBack(0, 178000), 0);
        due("debt", office.debt(0), 0);
        due("recovered", office.recovered(0), 8178000);
    }

    private void payBackRefusesNoHousehold() {
        name("Promise 5", NO_HOUSEHOLD);
        sentences.refusesNoHousehold("payBack of 1", (o, household) -> o.payBack(household, 1));
        sentences.refusesNoHousehold("payBack of 0", (o, household) -> o.payBack(household, 0));
    }

    private void payBackRefusesCents() {
        name("Promise 5", "Throws `IllegalArgumentException` if cents is out of range");
        for (Offices.Maker state : Offices.statesWithHouseholds()) {
            for (int none : Offices.NO_CENTS) {
                refused("payBack of " + none, state, Sentences.ARGUMENT, o -> o.payBack(0, none));
            }
        }
    }

    private void payBackRefusesMoreThanTheDebt() {
        name("Promise 5", "Throws `IllegalStateException` if its debt is less than that");
        for (int debt : new int[] {0, 1, 2, 5000, 60000}) {
            Offices.Maker owing = () -> Offices.owing(debt);
            refused("payBack of 1 more than " + debt, owing, Sentences.STATE,
                    o -> o.payBack(0, debt + 1));
            refused("payBack of 1000000 to " + debt, owing, Sentences.STATE,
                    o -> o.payBack(0, 1000000));
            if (debt > 0) {
                due("payBack of " + debt, owing.make().payBack(0, debt), 0);
                due("payBack of 1 less", owing.make().payBack(0, Math.max(1, debt - 1)),
                        debt - Math.max(1, debt - 1));
            }
        }
        refused("payBack to no debt at the end", () -> Offices.ended(1), Sentences.STATE,
                o -> o.payBack(0, 1));
        refused("payBack of a debt not yet assessed", () -> {
            TaperOffice office = Offices.of(1);
            office.close();
            office.tell(0, SAVINGS, 0, 1600001);
            return office;
        }, Sentences.STATE, o -> o.payBack(0, 1));
    }

    // ---- Promise 6: households

    private void householdsCount() {
        name("Promise 6", "Returns how many households there are.");
        for (int households = 0; households <= 6; households++) {
            due("households()", Offices.of(households).households(), households);
            due("households() at the end", Offices.ended(households).households(), households);
        }
    }

    // ---- Promise 7: close

    private void closeOfEachMonth() {
        name("Promise 7", "Closes the current month.");
        TaperOffice office = Offices.of(1);
        for (int month = 0; month < 48; month++) {
            due("paid before", office.paid(0, month), 0);
            due("assessed before", office.assessed(0, month), 0);
            due("close() of " + month, office.close(), 30000);
            due("paid then", office.paid(0, month), 30000);
            due("assessed then", office.assessed(0, month), 30000);
        }
    }

    private void closeReturnsAllTogether() {
        name("Promise 7", "Returns what all households are paid, together.");
        due("close() without households", Offices.of(0).close(), 0);
        due("close() of 47 without households", Offices.inMonth(0, 47).close(), 0);
        due("close() with one", Offices.of(1).close(), 30000);
        due("close() with 6", Offices.of(6).close(), 180000);
        TaperOffice most = Offices.of(6);
        for (int household = 0; household < 6; household++) {
            Offices.tellMost(most, household);
        }
        due("close() with the most due", most.close(), 6 * 174000);
        for (int household = 0; household < 6; household++) {
            most.tell(household, SAVINGS, 0, 1600001);
        }
        due("close() with nothing due", most.close(), 0);
        TaperOffice mixed = Offices.owing(5000);
        mixed.add();
        due("close() with less and with all", mixed.close(), 25500 + 30000);
    }

    private void closeRefused() {
        name("Promise 7", "Throws `IllegalStateException` if there is no current month");
        for (int households : new int[] {0, 1, 6}) {
            TaperOffice office = Offices.inMonth(households, 47);
            due("close() of the month 47", office.close(), 30000 * households);
            for (int i = 0; i < 3; i++) {
                due("close() then threw",
                        Sentences.thrownBy(office, o -> o.close()) == Sentences.STATE, true);
                due("month() then", office.month(), TaperOffice.NONE);
            }
            refused("close() at the end", () -> Offices.ended(households), Sentences.STATE,
                    o -> o.close());
        }
        refused("close() at the end with something unassessed", () -> {
            TaperOffice office = Offices.ended(1);
            office.tell(0, RENT, 0, 5);
            return office;
        }, Sentences.STATE, o -> o.close());
    }

    // ---- Promise 8: month

    private void monthOrNone() {
        name("Promise 8", "Returns the current month; NONE if there is none any more.");
        TaperOffice office = new TaperOffice();
        for (int month = 0; month < 48; month++) {
            due("month()", office.month(), month);
            office.close();
        }
        due("month() behind the month 47", office.month(), -1);
        due("month() asked again", office.month(), -1);
    }

    // ---- Promise 9: fact

    private void factInAMonth() {
        name("Promise 9", "Returns the value of a fact in a month.");
        TaperOffice office = Offices.of(6);
        for (int fact = 0; fact < 5; fact++) {
            due("with no change", office.fact(5, fact, 0), Offices.LEAST_VALUES[fact]);
            office.tell(5, fact, 1410, Offices.MOST_VALUES[fact]);
            due("in 46", office.fact(5, fact, 46), Offices.LEAST_VALUES[fact]);
            due("in 47", office.fact(5, fact, 47), Offices.MOST_VALUES[fact]);
            due("of another", office.fact(4, fact, 47), Offices.LEAST_VALUES[fact]);
        }
    }

    private void factOfEachFact() {
        name("Promise 9", FACTS);
        TaperOffice office = Offices.of(1);
        int[] told = {2, 3, 4, 5, 6};
        for (int fact = 0; fact < 5; fact++) {
            office.tell(0, fact, 0, told[fact]);
        }
        due("ADULTS", office.fact(0, ADULTS, 0), 2);
        due("CHILDREN", office.fact(0, CHILDREN, 0), 3);
        due("RENT", office.fact(0, RENT, 0), 4);
        due("INCOME", office.fact(0, INCOME, 0), 5);
        due("SAVINGS", office.fact(0, SAVINGS, 0), 6);
    }

    private void factMonths() {
        name("Promise 9", MONTHS);
        TaperOffice office = Offices.of(1);
        for (int month = 0; month < 48; month++) {
            office.tell(0, RENT, 30 * month, 100 + month);
        }
        for (int month = 0; month < 48; month++) {
            due("rent in " + month, office.fact(0, RENT, month), 100 + month);
        }
    }

    private void factRefusesNoHouseholdOrMonth() {
        name("Promise 9", NO_HOUSEHOLD_OR_MONTH);
        sentences.refusesNoHouseholdOrMonth("fact",
                (o, household, month) -> o.fact(household, RENT, month));
        sentences.refusesNoHouseholdOrMonth("no fact",
                (o, household, month) -> o.fact(household, 5, month));
    }

    private void factRefusesNoFact() {
        name("Promise 9", "Throws `IllegalArgumentException` if there is no such fact");
        for (Offices.Maker state : Offices.statesWithHouseholds()) {
            for (int none : Offices.NO_FACTS) {
                refused("fact " + none + " in 0", state, Sentences.ARGUMENT,
                        o -> o.fact(0, none, 0));
                refused("fact " + none + " in 47", state, Sentences.ARGUMENT,
                        o -> o.fact(0, none, 47));
            }
        }
    }

    // ---- Promises 10 to 13: need, taper, tariff and due

    /** In the month 0, with facts that change in the month 47 and were at first till then. */
    private static TaperOffice lastMonthDiffers() {
        TaperOffice office = Offices.of(1);
        office.tell(0, ADULTS, 1410, 2);
        office.tell(0, INCOME, 1410, 30000);
        office.tell(0, SAVINGS, 1410, 600001);
        return office;
    }

    private void needMonths() {
        name("Promise 10", MONTHS);
        TaperOffice office = lastMonthDiffers();
        for (int month = 0; month < 48; month++) {
            due("need in " + month, office.need(0, month), month < 47 ? 30000 : 42000);
        }
    }

    private void needRefused() {
        name("Promise 10", NO_HOUSEHOLD_OR_MONTH);
        sentences.refusesNoHouseholdOrMonth("need", (o, household, month) ->
                o.need(household, month));
    }

    private void taperMonths() {
        name("Promise 11", MONTHS);
        TaperOffice office = lastMonthDiffers();
        for (int month = 0; month < 48; month++) {
            due("taper in " + month, office.taper(0, month), month < 47 ? 0 : 6000);
        }
    }

    private void taperRefused() {
        name("Promise 11", NO_HOUSEHOLD_OR_MONTH);
        sentences.refusesNoHouseholdOrMonth("taper", (o, household, month) ->
                o.taper(household, month));
    }

    private void tariffMonths() {
        name("Promise 12", MONTHS);
        TaperOffice office = lastMonthDiffers();
        for (int month = 0; month < 48; month++) {
            due("tariff in " + month, office.tariff(0, month), month < 47 ? 0 : 500);
        }
    }

    private void tariffRefused() {
        name("Promise 12", NO_HOUSEHOLD_OR_MONTH);
        sentences.refusesNoHouseholdOrMonth("tariff", (o, household, month) ->
                o.tariff(household, month));
    }

    private void dueMonths() {
        name("Promise 13", MONTHS);
        TaperOffice office = lastMonthDiffers();
        for (int month = 0; month < 48; month++) {
            due("due for " + month, office.due(0, month), month < 47 ? 30000 : 35500);
        }
    }

    private void dueRefused() {
        name("Promise 13", NO_HOUSEHOLD_OR_MONTH);
        sentences.refusesNoHouseholdOrMonth("due", (o, household, month) ->
                o.due(household, month));
    }

    // ---- Promise 14: unassessed

    private void unassessedSinceAdded() {
        name("Promise 14", "Returns what is due to a household for all months since it was added"
                + " that are closed, together, less what was assessed for them.");
        TaperOffice first = Offices.of(1);
        first.tell(0, RENT, 0, 60000);
        due("with no month closed", first.unassessed(0), 0);
        first.close();
        due("with one closed", first.unassessed(0), 0);
        first.tell(0, RENT, 0, 59999);
        due("1 less", first.unassessed(0), -1);
        first.tell(0, RENT, 30, 60000);
        first.tell(0, RENT, 0, 60000);
        due("neither more nor less", first.unassessed(0), 0);

        TaperOffice later = Offices.inMonth(1, 47);
        later.add();
        later.tell(1, RENT, 0, 100);
        due("of one added in 47, not closed", later.unassessed(1), 0);
        later.close();
        later.tell(0, RENT, 0, 100);
        later.tell(1, RENT, 0, 300);
        due("of 48 months", later.unassessed(0), 48 * 100);
        due("of one month", later.unassessed(1), 200);
        mostAndLeastUnassessed();
    }

    private void mostAndLeastUnassessed() {
        TaperOffice office = Offices.richest();
        office.close();
        office.tell(0, SAVINGS, 0, 1600001);
        due("the least of 48 months", office.unassessed(0), -48 * 174000);

        TaperOffice poor = Offices.of(1);
        Offices.tellMost(poor, 0);
        poor.tell(0, SAVINGS, 0, 1600001);
        Offices.closeTill(poor, TaperOffice.NONE);
        poor.tell(0, SAVINGS, 0, 0);
        due("the most of 48 months", poor.unassessed(0), 48 * 174000);
    }

    private void unassessedRefused() {
        name("Promise 14", NO_HOUSEHOLD);
        sentences.refusesNoHousehold("unassessed", (o, household) -> o.unassessed(household));
    }

    // ---- Promise 15: wouldPay

    private void wouldPayIfClosedNow() {
        name("Promise 15", "Returns what a household would be paid if the current month was closed"
                + " now.");
        for (int month : new int[] {0, 1, 46, 47}) {
            TaperOffice office = Offices.inMonth(6, month);
            office.tell(5, RENT, 0, 60000);
            int paid = 90000 + month * 60000;
            due("wouldPay in " + month, office.wouldPay(5), paid);
            due("wouldPay asked again", office.wouldPay(5), paid);
            due("wouldPay of another", office.wouldPay(0), 30000);
            due("assessed after that", office.assessed(5, month), 0);
            due("paid after that", office.paid(5, month), 0);
            due("close()", office.close(), paid + 5 * 30000);
            due("paid", office.paid(5, month), paid);
        }
        TaperOffice owing = Offices.owing(5000);
        due("wouldPay with debt", owing.wouldPay(0), 25500);
        due("debt after that", owing.debt(0), 5000);
        due("recovered after that", owing.recovered(0), 0);
    }

    private void wouldPayWithoutMonth() {
        name("Promise 15", "Returns the sum; 0 if there is no current month.");
        TaperOffice office = Offices.inMonth(6, 47);
        due("wouldPay in the month 47", office.wouldPay(5), 30000);
        office.close();
        for (int household = 0; household < 6; household++) {
            due("wouldPay then", office.wouldPay(household), 0);
            office.tell(household, RENT, 0, 60000);
            due("wouldPay then with something unassessed", office.wouldPay(household), 0);
        }
    }

    private void wouldPayRefused() {
        name("Promise 15", NO_HOUSEHOLD);
        sentences.refusesNoHousehold("wouldPay", (o, household) -> o.wouldPay(household));
    }

    // ---- Promise 16: assessed

    private void assessedMonths() {
        name("Promise 16", MONTHS);
        TaperOffice office = Offices.of(1);
        for (int month = 0; month < 48; month++) {
            office.tell(0, RENT, 30 * month, month);
        }
        Offices.closeTill(office, TaperOffice.NONE);
        for (int month = 0; month < 48; month++) {
            due("assessed for " + month, office.assessed(0, month), 30000 + month);
        }
    }

    private void assessedOrZero() {
        name("Promise 16", "Returns the sum; 0 if nothing was assessed.");
        TaperOffice office = Offices.inMonth(1, 46);
        office.add();
        due("just added", office.assessed(1, 46), 0);
        office.close();
        due("before it was added", office.assessed(1, 45), 0);
        due("when it was added", office.assessed(1, 46), 30000);
        due("the current month", office.assessed(1, 47), 0);
        due("the first month of one added first", office.assessed(0, 0), 30000);
        office.close();
        due("the last month", office.assessed(1, 47), 30000);
        due("before it was added, at the end", office.assessed(1, 0), 0);
        TaperOffice nothing = Offices.of(1);
        nothing.tell(0, SAVINGS, 0, 1600001);
        nothing.close();
        due("assessed as nothing", nothing.assessed(0, 0), 0);
    }

    private void assessedRefused() {
        name("Promise 16", NO_HOUSEHOLD_OR_MONTH);
        sentences.refusesNoHouseholdOrMonth("assessed", (o, household, month) ->
                o.assessed(household, month));
    }

    // ---- Promise 17: paid

    private void paidMonths() {
        name("Promise 17", MONTHS);
        TaperOffice office = Offices.of(1);
        for (int month = 0; month < 48; month++) {
            office.tell(0, RENT, 30 * month, month);
        }
        Offices.closeTill(office, TaperOffice.NONE);
        for (int month = 0; month < 48; month++) {
            due("paid in " + month, office.paid(0, month), 30000 + month);
        }
    }

    private void paidOrZero() {
        name("Promise 17", "Returns the sum; 0 if the month is not closed, or it was added later.");
        TaperOffice office = Offices.inMonth(1, 46);
        office.add();
        office.tell(1, RENT, 0, 7);
        due("the current month", office.paid(1, 46), 0);
        due("the month 47", office.paid(1, 47), 0);
        office.close();
        due("closed before it was added", office.paid(1, 45), 0);
        due("the month 0, before it was added", office.paid(1, 0), 0);
        due("closed when it was added", office.paid(1, 46), 30007);
        due("the current month then", office.paid(1, 47), 0);
        office.close();
        due("the last month", office.paid(1, 47), 30007);
        due("the month 0 of one added first", office.paid(0, 0), 30000);
        office.tell(0, RENT, 0, 60000);
        due("paid stays", office.paid(0, 0), 30000);
    }

    private void paidRefused() {
        name("Promise 17", NO_HOUSEHOLD_OR_MONTH);
        sentences.refusesNoHouseholdOrMonth("paid", (o, household, month) ->
                o.paid(household, month));
    }

    // ---- Promise 18: debt

    private void debtOfAHousehold() {
        name("Promise 18", "Returns the debt of a household.");
        due("with no change", Offices.of(6).debt(5), 0);
        due("with no change at the end", Offices.ended(6).debt(0), 0);
        for (int debt : new int[] {0, 1, 60000}) {
            due("debt", Offices.owing(debt).debt(0), debt);
        }
        TaperOffice office = Offices.inMonth(1, 47);
        office.tell(0, SAVINGS, 0, 1600001);
        due("not assessed yet", office.debt(0), 0);
        office.close();
        due("debt of 47 months", office.debt(0), 47 * 30000);
        office.tell(0, SAVINGS, 0, 0);
        due("debt stays at the end", office.debt(0), 47 * 30000);
    }

    private void debtRefused() {
        name("Promise 18", NO_HOUSEHOLD);
        sentences.refusesNoHousehold("debt", (o, household) -> o.debt(household));
    }

    // ---- Promise 19: recovered

    private void recoveredSoFar() {
        name("Promise 19", "Returns how much was recovered of a household and paid back by it so"
                + " far, together; arrears that lowered its debt not counted.");
        due("with no change", Offices.of(6).recovered(5), 0);
        TaperOffice office = Offices.owing(20000);
        due("with debt alone", office.recovered(0), 0);
        office.tell(0, RENT, 30, 3000);
        office.tell(0, RENT, 60, 0);
        office.close();
        due("recovered besides arrears", office.recovered(0), 4500);
        due("debt", office.debt(0), 20000 - 3000 - 4500);
        office.payBack(0, 1);
        due("paid back too", office.recovered(0), 4501);
        office.dispute(0, true);
        office.close();
        due("nothing in dispute", office.recovered(0), 4501);
        office.tell(0, RENT, 30, 60000);
        office.tell(0, RENT, 60, 0);
        office.close();
        due("nothing by arrears that end the debt", office.recovered(0), 4501);
        due("debt at its end", office.debt(0), 0);
        Offices.closeTill(office, TaperOffice.NONE);
        due("at the end", office.recovered(0), 4501);
    }

    private void recoveredRefused() {
        name("Promise 19", NO_HOUSEHOLD);
        sentences.refusesNoHousehold("recovered", (o, household) -> o.recovered(household));
    }
}
