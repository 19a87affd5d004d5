/** All that a line tells of itself without being changed by the question. */
final class Telling {
    private Telling() {
    }

    static String all(KanbanLoop line) {
        StringBuilder text = new StringBuilder();
        text.append("time ").append(line.time());
        text.append(" taken ").append(line.taken());
        text.append(" backlog ").append(line.backlog());
        text.append(" short ").append(line.shortSteps());
        text.append(" stock ").append(line.stock());
        text.append(" flow ").append(line.stockByFlow());
        for (int i = 0; i < line.stages(); i++) {
            text.append(" | ").append(i);
            text.append(" board ").append(line.board(i));
            text.append(" attached ").append(line.attached(i));
            text.append(" left ").append(line.left(i));
            text.append(" run ").append(line.run(i));
            text.append(" market ").append(line.market(i));
            text.append(" first ").append(line.firstUnits(i));
            text.append(" inbox ").append(line.inbox(i));
            text.append(" waiting ").append(line.waiting(i));
            text.append(" travelling ").append(line.travelling(i));
            text.append(" starved ").append(line.starved(i));
        }
        return text.toString();
    }
}
