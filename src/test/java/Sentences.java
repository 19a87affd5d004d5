import java.util.function.Consumer;
import java.util.function.ObjIntConsumer;
import java.util.function.Supplier;

/** Runs one test for one sentence of the document, and names the sentence wherever that test fails. */
final class Sentences {
    static final Class<IndexOutOfBoundsException> NO_STAGE = IndexOutOfBoundsException.class;
    static final Class<IllegalArgumentException> BAD_ARGUMENT = IllegalArgumentException.class;
    static final Class<IllegalStateException> BAD_STATE = IllegalStateException.class;
    static final int MOST_STAGES = 6;

    private final Document document;
    private final Checks checks;

    Sentences(Document document, Checks checks) {
        this.document = document;
        this.checks = checks;
    }

    void says(String part, String sentence, Runnable test) {
        checks.about(part + ", '" + sentence + "'");
        checks.isTrue("the sentence stands in the document", document.quote(part, sentence));
        int before = checks.made();
        try {
            test.run();
        } catch (RuntimeException e) {
            checks.fail("the test ended with " + e);
        }
        checks.isTrue("the test checks something", checks.made() > before);
        checks.about("");
    }

    /** For what tells no answer of any call. */
    void tellsNoAnswer(String part, String sentence) {
        checks.isTrue(part + " has '" + sentence + "'", document.quote(part, sentence));
    }

    void allWereQuoted() {
        for (String sentence : document.neverQuoted()) {
            checks.fail("no test quotes " + sentence);
        }
    }

    void same(String what, long got, long due) {
        checks.same(what, got, due);
    }

    void isTrue(String what, boolean got) {
        checks.isTrue(what, got);
    }

    void accepts(String what, Runnable call) {
        Class<?> got = Checks.thrownBy(call);
        checks.isTrue(what + " throws " + got, got == null);
    }

    /** The call must throw just this, and a line that was spared it must go on the same in all that follows. */
    void refuses(String what, Supplier<KanbanLoop> made, Class<? extends RuntimeException> due,
            Consumer<KanbanLoop> call) {
        KanbanLoop asked = made.get();
        KanbanLoop spared = made.get();
        Class<?> got = Checks.thrownBy(() -> call.accept(asked));
        checks.isTrue(what + " throws " + got + ", due is " + due, got == due);
        checks.same("what follows " + what, Telling.future(asked), Telling.future(spared));
    }

    void acceptsBothEnds(Supplier<KanbanLoop> made, int least, int most, ObjIntConsumer<KanbanLoop> call) {
        for (int value : new int[] {least, least + 1, most - 1, most}) {
            KanbanLoop line = made.get();
            accepts("the call with " + value, () -> call.accept(line, value));
        }
    }

    void refusesBeyond(Supplier<KanbanLoop> made, int least, int most, ObjIntConsumer<KanbanLoop> call) {
        for (int value : new int[] {least - 1, most + 1, -most, Integer.MIN_VALUE, Integer.MAX_VALUE}) {
            refuses("the call with " + value, made, BAD_ARGUMENT, line -> call.accept(line, value));
        }
    }

    /** Every number of stages, and every stage from the least one on. */
    void acceptsStages(int least, ObjIntConsumer<KanbanLoop> call) {
        for (int stages = 1; stages <= MOST_STAGES; stages++) {
            for (int stage = least; stage < stages; stage++) {
                KanbanLoop line = Lines.roomy(stages);
                int asked = stage;
                accepts("the call for " + stage + " of " + stages, () -> call.accept(line, asked));
            }
        }
    }

    void refusesNoStage(int least, ObjIntConsumer<KanbanLoop> call) {
        for (int stages = 0; stages <= MOST_STAGES; stages++) {
            int many = stages;
            for (int stage : new int[] {least - 1, -1, -stages, Integer.MIN_VALUE, stages, stages + 1,
                    Integer.MAX_VALUE}) {
                if (stage >= least && stage < stages) {
                    continue;
                }
                refuses("the call for " + stage + " of " + stages, () -> Lines.roomy(many), NO_STAGE,
                        line -> call.accept(line, stage));
                refuses("the call for " + stage + " of " + stages + " busy ones", () -> Lines.busy(many), NO_STAGE,
                        line -> call.accept(line, stage));
            }
        }
    }
}
