import java.util.function.IntSupplier;

/** Long runs of calls, drawn by a fixed row of numbers, on the program and on PaperLine alike. */
public final class ModelTest {
    private static final int RUNS = 3000;
    private static final int CALLS = 500;

    private final Checks checks = new Checks();
    private long seed;

    public static void main(String[] args) {
        ModelTest test = new ModelTest();
        for (int run = 0; run < RUNS && test.checks.failures() < 5; run++) {
            test.run(run);
        }
        test.checks.close();
    }

    private int below(int bound) {
        seed = seed * 6364136223846793005L + 1442695040888963407L;
        return (int) ((seed >>> 33) % bound);
    }

    private int from(int least, int most) {
        return least + below(most - least + 1);
    }

    /** Mostly a number within the bounds, now and then one just beyond them or far off. */
    private int about(int least, int most) {
        switch (below(40)) {
            case 0: return least - 1;
            case 1: return most + 1;
            case 2: return Integer.MIN_VALUE;
            case 3: return Integer.MAX_VALUE;
            case 4: return least;
            case 5: return most;
            default: return from(least, most);
        }
    }

    private void run(int number) {
        seed = number * 7919L + 1;
        KanbanLoop line = new KanbanLoop();
        PaperLine paper = new PaperLine();
        // Some runs have lines of few stages, some refuse nothing, some have slow stages.
        int stagesWanted = from(1, 6);
        int mostTime = from(1, 9);
        int mostSteps = below(3) == 0 ? 50 : 3;
        for (int call = 0; call < CALLS; call++) {
            String what = oneCall(line, paper, stagesWanted, mostTime, mostSteps);
            String got = Telling.all(line);
            String due = paper.all();
            checks.same("run " + number + ", call " + call + ", after " + what, got, due);
            checks.same("run " + number + ", the two stocks", line.stock(), line.stockByFlow());
            if (checks.failures() > 0) {
                return;
            }
        }
    }

    private String oneCall(KanbanLoop line, PaperLine paper, int stagesWanted, int mostTime, int mostSteps) {
        int kind = below(30);
        int at = about(0, Math.max(0, line.stages() - 1));
        int fed = about(1, Math.max(1, line.stages() - 1));
        if (line.stages() == 0 && below(4) > 0 || kind == 0 && (line.stages() < stagesWanted || below(20) == 0)) {
            int cards = about(1, 9);
            int size = about(1, below(2) == 0 ? 10 : 4);
            int time = about(1, mostTime);
            int mark = about(1, below(2) == 0 ? 9 : 2);
            boolean full = below(2) == 0;
            String what = "stage(" + cards + ", " + size + ", " + time + ", " + mark + ", " + full + ")";
            return both(what, () -> line.stage(cards, size, time, mark, full),
                    () -> paper.stage(cards, size, time, mark, full));
        }
        int small = about(0, 5);
        int mark = about(1, 9);
        int units = about(0, below(3) == 0 ? 20 : 5);
        int safety = about(0, 100);
        int steps = about(1, mostSteps);
        boolean first = below(2) == 0;
        switch (kind) {
            case 1: case 2: return both("way(" + fed + ", " + small + ")", () -> line.way(fed, small), () -> paper.way(fed, small));
            case 3: return both("mark(" + at + ", " + mark + ")", () -> line.mark(at, mark), () -> paper.mark(at, mark));
            case 4: case 5: return both("rule(" + first + ")", () -> line.rule(first) ? 1 : 0, () -> paper.rule(first));
            case 6: case 7: return both("demand(" + units + ")", () -> line.demand(units), () -> paper.demand(units));
            case 8: return both("stop(" + at + ")", () -> line.stop(at) ? 1 : 0, () -> paper.stop(at));
            case 9: return both("issue(" + at + ")", () -> line.issue(at), () -> paper.issue(at));
            case 10: return both("retire(" + at + ")", () -> line.retire(at), () -> paper.retire(at));
            case 11: case 12: return both("issueConveyance(" + fed + ")", () -> line.issueConveyance(fed), () -> paper.issueConveyance(fed));
            case 13: return both("retireConveyance(" + fed + ")", () -> line.retireConveyance(fed), () -> paper.retireConveyance(fed));
            case 14: case 15: return both("needed(" + at + ", " + safety + ")", () -> line.needed(at, safety), () -> paper.needed(at, safety));
            case 16: return both("way(" + at + ", " + small + ")", () -> line.way(at, small), () -> paper.way(at, small));
            default: return both("step(" + steps + ")", () -> line.step(steps), () -> paper.step(steps));
        }
    }

    private String both(String what, IntSupplier call, IntSupplier due) {
        checks.same(what, answer(call), answer(due));
        return what;
    }

    private static String answer(IntSupplier call) {
        try {
            return Integer.toString(call.getAsInt());
        } catch (RuntimeException e) {
            return "throws " + e.getClass().getSimpleName();
        }
    }
}
