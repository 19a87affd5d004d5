import java.util.function.Supplier;

/** All that a line tells of itself. */
final class Telling {
    private Telling() {
    }

    /** Without being changed by the question. */
    static String all(KanbanLoop line) {
        StringBuilder text = new StringBuilder();
        text.append("time ").append(line.time());
        text.append(" taken ").append(line.taken());
        text.append(" backlog ").append(line.backlog());
        text.append(" short ").append(line.shortSteps());
        text.append(" stock ").append(line.stock());
        text.append(" flow ").append(line.stockByFlow());
        for (int i = 0; i < line.stages(); i++) {
            text.append(" | ").append(i);
            text.append(" board ").append(line.board(i));
            text.append(" attached ").append(line.attached(i));
            text.append(" left ").append(line.left(i));
            text.append(" run ").append(line.run(i));
            text.append(" market ").append(line.market(i));
            text.append(" first ").append(line.firstUnits(i));
            text.append(" inbox ").append(line.inbox(i));
            text.append(" waiting ").append(line.waiting(i));
            text.append(" travelling ").append(line.travelling(i));
            text.append(" starved ").append(line.starved(i));
        }
        return text.toString();
    }

    /** With what no question tells, the line being used up by it: marks, ways, rule, demand, cards in all, and steps. */
    static String future(KanbanLoop line) {
        StringBuilder text = new StringBuilder(all(line));
        boolean first = line.rule(false);
        text.append(" || first ").append(first);
        line.rule(first);
        int demand = line.demand(20);
        text.append(" demand ").append(demand);
        for (int i = 0; i < line.stages(); i++) {
            settings(text, line, i);
        }
        line.demand(demand);
        for (int i = 0; i < 20 && line.stages() > 0; i++) {
            text.append(" || taken ").append(line.step(1)).append(' ').append(all(line));
            line.rule(i % 3 == 0);
            line.demand(i % 5);
        }
        return text.toString();
    }

    private static void settings(StringBuilder text, KanbanLoop line, int stage) {
        text.append(" | ").append(stage);
        text.append(" needed ").append(line.needed(stage, 100));
        text.append(" stopped ").append(line.stop(stage)).append(line.stop(stage));
        text.append(" cards ").append(answer(() -> line.issue(stage))).append(answer(() -> line.retire(stage)));
        text.append(" conveyance ").append(answer(() -> line.issueConveyance(stage)));
        text.append(answer(() -> line.retireConveyance(stage)));
        int mark = line.mark(stage, 1);
        line.mark(stage, mark);
        text.append(" mark ").append(mark);
        if (stage > 0) {
            int way = line.way(stage, 0);
            line.way(stage, way);
            text.append(" way ").append(way);
        }
    }

    private static String answer(Supplier<Integer> call) {
        try {
            return call.get() + " ";
        } catch (RuntimeException e) {
            return e.getClass().getSimpleName() + " ";
        }
    }
}
