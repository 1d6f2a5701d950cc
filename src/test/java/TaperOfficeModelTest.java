import java.util.ArrayList;
import java.util.List;

/**
 * Compares long runs of calls with a second writing of the document that shares nothing with the
 * class: it keeps the list of all changes told and searches it at every question.
 */
public final class TaperOfficeModelTest {
    private static final int RUNS = 400;
    /** The document promises nothing about later calls. */
    private static final int CALLS = 512;
    private static final int MOST_CALLS_OF_STEP = 3;

    private static final long THROWS_INDEX = Long.MIN_VALUE;
    private static final long THROWS_ARGUMENT = Long.MIN_VALUE + 1;
    private static final long THROWS_STATE = Long.MIN_VALUE + 2;

    private static final class Change {
        int fact;
        int from;
        int value;
    }

    private static final class ModelHousehold {
        final List<Change> changes = new ArrayList<>();
        final long[] assessed = new long[48];
        final long[] paid = new long[48];
        int addedIn;
        long debt;
        long recovered;
        boolean disputes;

        long fact(int fact, int month) {
            Change best = null;
            for (Change change : changes) {
                if (change.fact == fact && change.from <= month
                        && (best == null || change.from >= best.from)) {
                    best = change;
                }
            }
            return best != null ? best.value : fact == 0 ? 1 : 0;
        }

        long need(int month) {
            long rent = fact(2, month);
            return 30000 + (fact(0, month) == 2 ? 12000 : 0) + 8000 * fact(1, month)
                    + (rent > 60000 ? 60000 : rent);
        }

        long taper(int month) {
            long income = fact(3, month);
            return income > 20000 ? (income - 20000) * 3 / 5 : 0;
        }

        long tariff(int month) {
            long tariff = 0;
            for (long reached = 600000; reached < fact(4, month); reached += 25000) {
                tariff += 500;
            }
            return tariff;
        }

        long due(int month) {
            long due = need(month) - taper(month) - tariff(month);
            return due < 500 || fact(4, month) > 1600000 ? 0 : due;
        }

        long unassessed(int current) {
            long more = 0;
            for (int month = addedIn; month < current; month++) {
                more += due(month) - assessed[month];
            }
            return more;
        }

        long close(int current) {
            long more = unassessed(current);
            for (int month = addedIn; month < current; month++) {
                assessed[month] = due(month);
            }
            long arrears = 0;
            if (more > 0) {
                long lowered = Math.min(more, debt);
                debt -= lowered;
                arrears = more - lowered;
            } else {
                debt -= more;
            }
            long award = due(current);
            assessed[current] = award;
            long amount = 0;
            if (!disputes) {
                amount = Math.min(debt, award * 15 / 100);
                amount = Math.min(amount, Math.max(0, award + fact(3, current) - 25000));
            }
            debt -= amount;
            recovered += amount;
            paid[current] = award - amount + arrears;
            return paid[current];
        }

        /** A copy, on which a close can be tried. */
        long wouldPay(int current) {
            ModelHousehold copy = new ModelHousehold();
            copy.changes.addAll(changes);
            System.arraycopy(assessed, 0, copy.assessed, 0, 48);
            copy.addedIn = addedIn;
            copy.debt = debt;
            copy.disputes = disputes;
            return copy.close(current);
        }
    }

    private static final class Model {
        final List<ModelHousehold> households = new ArrayList<>();
        int current;

        boolean knows(int household) {
            return household >= 0 && household < households.size();
        }

        long add() {
            if (households.size() == 6 || current == 48) {
                return THROWS_STATE;
            }
            ModelHousehold household = new ModelHousehold();
            household.addedIn = current;
            households.add(household);
            return households.size() - 1;
        }

        long tell(int household, int fact, int day, int value) {
            if (!knows(household)) {
                return THROWS_INDEX;
            }
            long[] most = {2, 9, 1000000, 1000000, 10000000};
            if (fact < 0 || fact > 4 || day < 0 || day > 1439
                    || value < (fact == 0 ? 1 : 0) || value > most[fact]) {
                return THROWS_ARGUMENT;
            }
            if (households.get(household).changes.size() == 100) {
                return THROWS_STATE;
            }
            Change change = new Change();
            change.fact = fact;
            change.from = (day + 15) / 30;
            change.value = value;
            households.get(household).changes.add(change);
            return change.from;
        }

        long dispute(int household, boolean disputes) {
            if (!knows(household)) {
                return THROWS_INDEX;
            }
            boolean before = households.get(household).disputes;
            households.get(household).disputes = disputes;
            return before ? 1 : 0;
        }

        long payBack(int household, int cents) {
            if (!knows(household)) {
                return THROWS_INDEX;
            }
            if (cents < 1 || cents > 1000000) {
                return THROWS_ARGUMENT;
            }
            ModelHousehold owing = households.get(household);
            if (owing.debt < cents) {
                return THROWS_STATE;
            }
            owing.debt -= cents;
            owing.recovered += cents;
            return owing.debt;
        }

        long close() {
            if (current == 48) {
                return THROWS_STATE;
            }
            long sum = 0;
            for (ModelHousehold household : households) {
                sum += household.close(current);
            }
            current++;
            return sum;
        }

        long ask(int question, int household, int fact, int month) {
            if (!knows(household)) {
                return THROWS_INDEX;
            }
            if (question < 7 && (month < 0 || month > 47)) {
                return THROWS_INDEX;
            }
            if (question == 0 && (fact < 0 || fact > 4)) {
                return THROWS_ARGUMENT;
            }
            ModelHousehold asked = households.get(household);
            switch (question) {
                case 0: return asked.fact(fact, month);
                case 1: return asked.need(month);
                case 2: return asked.taper(month);
                case 3: return asked.tariff(month);
                case 4: return asked.due(month);
                case 5: return asked.assessed[month];
                case 6: return asked.paid[month];
                case 7: return asked.unassessed(current);
                case 8: return current == 48 ? 0 : asked.wouldPay(current);
                case 9: return asked.debt;
                default: return asked.recovered;
            }
        }
    }

    private interface Call {
        long run();
    }

    private long seed;
    private int calls;
    private int wrong;
    private int runsToTheEnd;
    private int runsWithRecovery;
    private TaperOffice office;
    private Model model;

    public static void main(String[] args) {
        TaperOfficeModelTest test = new TaperOfficeModelTest();
        for (int run = 0; run < RUNS && test.wrong == 0; run++) {
            test.run(run);
        }
        if (test.wrong == 0 && (test.runsToTheEnd < 10 || test.runsWithRecovery < 10)) {
            System.out.println("the runs do not reach what they should test");
            test.wrong++;
        }
        System.out.println(test.wrong == 0 ? "as the model" : test.wrong + " answers are wrong");
        System.exit(test.wrong == 0 ? 0 : 1);
    }

    private void run(int run) {
        seed = 1000003L * run + 17;
        office = new TaperOffice();
        model = new Model();
        calls = 0;
        int closing = 3 + next(20);
        while (calls < CALLS - MOST_CALLS_OF_STEP && wrong == 0) {
            step(run, closing);
        }
        runsToTheEnd += model.current == 48 ? 1 : 0;
        for (ModelHousehold household : model.households) {
            if (household.recovered > 0) {
                runsWithRecovery++;
                break;
            }
        }
    }

    /** Numbers that are the same in every run, spread as if drawn. */
    private int next(int bound) {
        seed = seed * 6364136223846793005L + 1442695040888963407L;
        return (int) ((seed >>> 33) % bound);
    }

    private int pick(int... values) {
        return values[next(values.length)];
    }

    private void step(int run, int closing) {
        int household = next(40) == 0 ? pick(-1, 6, 100, Integer.MIN_VALUE)
                : next(Math.max(1, model.households.size() + (next(20) == 0 ? 1 : 0)));
        int kind = next(100);
        if (kind < 3 || model.households.isEmpty() && kind < 50) {
            compare(run, "add()", () -> office.add(), model.add());
        } else if (kind < 3 + closing) {
            compare(run, "close()", () -> office.close(), model.close());
        } else if (kind < 60) {
            tellSomething(run, household);
        } else if (kind < 64) {
            boolean disputes = next(3) == 0;
            compare(run, "dispute(" + household + ", " + disputes + ")",
                    () -> office.dispute(household, disputes) ? 1 : 0,
                    model.dispute(household, disputes));
        } else if (kind < 70) {
            payBackSomething(run, household);
        } else if (kind < 72) {
            compare(run, "households()", () -> office.households(), model.households.size());
            compare(run, "month()", () -> office.month(),
                    model.current == 48 ? -1 : model.current);
        } else {
            askSomething(run, household);
        }
        ask(run, 7 + next(4), household, 0, 0);
    }

    private void tellSomething(int run, int household) {
        int fact = next(50) == 0 ? pick(-1, 5, Integer.MAX_VALUE) : next(5);
        int near = Math.max(0, Math.min(47, model.current - 4 + next(7)));
        int day = next(50) == 0 ? pick(-1, 1440, Integer.MAX_VALUE)
                : next(5) == 0 ? next(1440) : 30 * near + pick(0, 1, 13, 14, 15, 16, 29, next(30));
        int value = next(40) == 0 ? pick(-1, 10, 1000001, 10000001, Integer.MIN_VALUE)
                : valueOf(fact);
        compare(run, "tell(" + household + ", " + fact + ", " + day + ", " + value + ")",
                () -> office.tell(household, fact, day, value),
                model.tell(household, fact, day, value));
    }

    private int valueOf(int fact) {
        switch (fact) {
            case 0: return 1 + next(2);
            case 1: return next(10);
            case 2: return pick(0, 59999, 60000, 60001, 1000000, next(70000), next(70000));
            case 3: return pick(0, 14999, 15001, 19999, 20000, 20001, 20002, 1000000,
                    next(30000), next(100000), next(200000));
            case 4: return pick(0, 600000, 600001, 625000, 625001, 1599999, 1600000, 1600001,
                    10000000, next(1700000), 550000 + next(300000));
            default: return next(3);
        }
    }

    private void payBackSomething(int run, int household) {
        int owed = model.knows(household) ? (int) model.households.get(household).debt : 5;
        int cents = pick(-1, 0, 1, 2, 1000000, 1000001, owed - 1, owed, owed + 1,
                1 + next(20000), 1 + next(20000));
        compare(run, "payBack(" + household + ", " + cents + ")",
                () -> office.payBack(household, cents), model.payBack(household, cents));
    }

    private void askSomething(int run, int household) {
        int question = next(11);
        int month = next(30) == 0 ? pick(-1, 48, Integer.MAX_VALUE, Integer.MIN_VALUE) : next(48);
        int fact = next(30) == 0 ? pick(-1, 5, Integer.MIN_VALUE) : next(5);
        ask(run, question, household, fact, month);
    }

    private void ask(int run, int question, int household, int fact, int month) {
        String what = "question " + question + " of " + household + ", " + fact + ", " + month;
        compare(run, what, () -> answer(question, household, fact, month),
                model.ask(question, household, fact, month));
    }

    private long answer(int question, int household, int fact, int month) {
        switch (question) {
            case 0: return office.fact(household, fact, month);
            case 1: return office.need(household, month);
            case 2: return office.taper(household, month);
            case 3: return office.tariff(household, month);
            case 4: return office.due(household, month);
            case 5: return office.assessed(household, month);
            case 6: return office.paid(household, month);
            case 7: return office.unassessed(household);
            case 8: return office.wouldPay(household);
            case 9: return office.debt(household);
            default: return office.recovered(household);
        }
    }

    private void compare(int run, String what, Call asked, long want) {
        calls++;
        long got;
        try {
            got = asked.run();
        } catch (Throwable thrown) {
            got = thrown.getClass() == IndexOutOfBoundsException.class ? THROWS_INDEX
                    : thrown.getClass() == IllegalArgumentException.class ? THROWS_ARGUMENT
                    : thrown.getClass() == IllegalStateException.class ? THROWS_STATE
                    : Long.MAX_VALUE;
        }
        if (got != want) {
            wrong++;
            System.out.println("run " + run + ", call " + calls + ": " + what + " answered " + got
                    + ", due is " + want);
        }
    }
}
