/** Lines in states that many tests begin with. */
final class Lines {
    private Lines() {
    }

    static KanbanLoop of(int cards, int size, int time, int mark, boolean full) {
        KanbanLoop line = new KanbanLoop();
        line.stage(cards, size, time, mark, full);
        return line;
    }

    /** As stage adds them, with one card each. */
    static KanbanLoop plain(int stages) {
        KanbanLoop line = new KanbanLoop();
        for (int i = 0; i < stages; i++) {
            line.stage(1, 1, 1, 9, false);
        }
        return line;
    }

    /** Every card of it can be issued and retired, and nothing has moved yet. */
    static KanbanLoop roomy(int stages) {
        KanbanLoop line = new KanbanLoop();
        line.demand(7);
        for (int i = 0; i < stages; i++) {
            line.stage(2 + i, 1 + i, 2, 9 - i, false);
            if (i > 0) {
                line.issueConveyance(i);
                line.way(i, i % 4);
            }
        }
        return line;
    }

    /** It has begun containers, some on their way, a backlog, a run that is on, and a stage that is stopped. */
    static KanbanLoop busy(int stages) {
        KanbanLoop line = new KanbanLoop();
        line.demand(4);
        line.rule(true);
        for (int i = 0; i < stages; i++) {
            line.stage(2 + i, 3 + i % 2, 1 + i % 3, 1 + i % 2, i % 2 == 0);
            if (i > 0) {
                line.issueConveyance(i);
                line.way(i, 1 + i % 3);
            }
        }
        for (int i = 0; i < stages; i++) {
            line.step(2 + i);
        }
        if (stages > 1) {
            line.stop(stages - 1);
        }
        return line;
    }

    /**
     * The stage 1, which works on none and has no run, has an inbox of these containers, each with its card; the
     * market of stage 0 is empty and stays so.
     */
    static KanbanLoop inboxOf(int containers, int units, int size, int time) {
        KanbanLoop line = of(containers, units, 1, 9, true);
        line.stage(8, size, time, 9, false);
        for (int i = 1; i < containers; i++) {
            line.issueConveyance(1);
        }
        line.step(1);
        return line;
    }
}
