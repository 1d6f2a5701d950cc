import java.util.HashSet;
import java.util.Set;

/**
 * Holds what the office answers against what a sentence of the document asks for. Each test names
 * its sentence in the document's own words first; a sentence under which nothing is asked is wrong.
 */
final class Sentences {
    static final Class<?> NO_SUCH = IndexOutOfBoundsException.class;
    static final Class<?> ARGUMENT = IllegalArgumentException.class;
    static final Class<?> STATE = IllegalStateException.class;

    interface Call {
        void run(TaperOffice office);
    }

    interface CallOfHousehold {
        void run(TaperOffice office, int household);
    }

    interface CallOfMonth {
        void run(TaperOffice office, int household, int month);
    }

    private final Set<String> named = new HashSet<>();
    private String sentence = "no sentence";
    private int asked = 1;
    private int wrong = 0;

    void name(String words) {
        endSentence();
        sentence = words;
        named.add(words);
        asked = 0;
    }

    void name(String promise, String words) {
        name(promise + ": " + words);
    }

    private void endSentence() {
        if (asked == 0) {
            say("nothing was asked");
        }
    }

    private void say(String what) {
        wrong++;
        System.out.println("\"" + sentence + "\"\n    " + what);
    }

    void due(String what, long got, long want) {
        asked++;
        if (got != want) {
            say(what + " answered " + got + ", due is " + want);
        }
    }

    void due(String what, boolean got, boolean want) {
        asked++;
        if (got != want) {
            say(what + " answered " + got + ", due is " + want);
        }
    }

    /** The call throws what is wanted, and changes nothing. */
    void refused(String what, Offices.Maker maker, Class<?> want, Call call) {
        asked++;
        Class<?> got = thrownBy(maker.make(), call);
        if (got != want) {
            say(what + " threw " + got + ", due is " + want);
        }
        changesNothing(what, maker, call);
    }

    /** Nothing is promised about an object after its 512th call: so each question has its own. */
    void changesNothing(String what, Offices.Maker maker, Call call) {
        asked++;
        int households = maker.make().households();
        for (int household = 0; household < households; household++) {
            TaperOffice tried = maker.make();
            thrownBy(tried, call);
            if (!pastOf(tried, household).equals(pastOf(maker.make(), household))) {
                say(what + " changed what the household " + household + " answers");
            }
        }
        TaperOffice tried = maker.make();
        thrownBy(tried, call);
        if (!futureOf(tried).equals(futureOf(maker.make()))) {
            say(what + " changed what later calls answer");
        }
    }

    void refusesNoHousehold(String what, CallOfHousehold call) {
        for (Offices.Maker state : Offices.allStates()) {
            for (int none : Offices.noHouseholds(state.make().households())) {
                refused(what + " of household " + none, state, NO_SUCH, o -> call.run(o, none));
            }
        }
    }

    void refusesNoHouseholdOrMonth(String what, CallOfMonth call) {
        refusesNoHousehold(what + " in 0", (o, household) -> call.run(o, household, 0));
        refusesNoHousehold(what + " in 47", (o, household) -> call.run(o, household, 47));
        refusesNoHousehold(what + " in 48", (o, household) -> call.run(o, household, 48));
        for (Offices.Maker state : Offices.statesWithHouseholds()) {
            int last = state.make().households() - 1;
            for (int none : Offices.NO_MONTHS) {
                refused(what + " in " + none, state, NO_SUCH, o -> call.run(o, 0, none));
                refused(what + " of the last one in " + none, state, NO_SUCH,
                        o -> call.run(o, last, none));
            }
        }
    }

    static Class<?> thrownBy(TaperOffice office, Call call) {
        try {
            call.run(office);
        } catch (Throwable thrown) {
            return thrown.getClass();
        }
        return null;
    }

    private static String pastOf(TaperOffice office, int household) {
        StringBuilder past = new StringBuilder();
        past.append(office.debt(household));
        past.append(' ').append(office.recovered(household));
        past.append(' ').append(office.unassessed(household));
        past.append(' ').append(office.wouldPay(household));
        for (int month = 0; month < 48; month++) {
            for (int fact = 0; fact < 5; fact++) {
                past.append(' ').append(office.fact(household, fact, month));
            }
            past.append(' ').append(office.assessed(household, month));
            past.append(' ').append(office.paid(household, month));
        }
        return past.toString();
    }

    /** What a few later calls answer: it shows counts and months that no question tells. */
    private static String futureOf(TaperOffice office) {
        StringBuilder future = new StringBuilder();
        future.append(office.households()).append(' ').append(office.month());
        int[] added = {-1};
        future.append(' ').append(thrownBy(office, o -> added[0] = o.add()));
        future.append(' ').append(added[0]);
        int households = office.households();
        for (int i = 0; i < households; i++) {
            int household = i;
            future.append(' ').append(office.dispute(household, false));
            future.append(' ').append(thrownBy(office, o -> o.tell(household, 3, 0, 26001)));
            future.append(' ').append(thrownBy(office, o -> o.payBack(household, 1)));
            future.append(' ').append(office.wouldPay(household));
        }
        for (int i = 0; i < 2; i++) {
            future.append(' ').append(thrownBy(office, o -> o.close()));
            future.append(' ').append(office.month());
            for (int household = 0; household < households; household++) {
                future.append(' ').append(office.debt(household));
                future.append(' ').append(office.wouldPay(household));
            }
        }
        return future.toString();
    }

    void end() {
        endSentence();
        System.out.println(wrong == 0 ? named.size() + " sentences hold" : wrong + " are wrong");
        System.exit(wrong == 0 ? 0 : 1);
    }
}
