import java.util.ArrayDeque;
import java.util.ArrayList;
import java.util.Iterator;
import java.util.List;

/**
 * The document's line once more, written with a thing for each card and each container, so that it
 * shares no counting with the program: ModelTest compares the two call by call.
 */
final class PaperLine {
    enum Place { BOARD, MAKING, ATTACHED, WAITING, TRAVELLING, IN_INBOX }

    static final class Card {
        Place place;

        Card(Place place) {
            this.place = place;
        }
    }

    static final class Container {
        int units;
        int toGo;
        Card production;
        Card conveyance;
    }

    static final class Stage {
        int size;
        int time;
        int mark;
        int left;
        int run;
        int way;
        int starved;
        boolean stopped;
        Container making;
        List<Card> production = new ArrayList<>();
        List<Card> conveyance = new ArrayList<>();
        ArrayDeque<Container> market = new ArrayDeque<>();
        ArrayDeque<Container> inbox = new ArrayDeque<>();
        List<Container> travelling = new ArrayList<>();
    }

    final List<Stage> stages = new ArrayList<>();
    boolean first;
    int demand;
    int time;
    int taken;
    int backlog;
    int shortSteps;
    int entered;

    static long count(List<Card> cards, Place place) {
        return cards.stream().filter(card -> card.place == place).count();
    }

    static Card one(List<Card> cards, Place place) {
        return cards.stream().filter(card -> card.place == place).findFirst().orElse(null);
    }

    static int units(Iterable<Container> containers) {
        int sum = 0;
        for (Container container : containers) {
            sum += container.units;
        }
        return sum;
    }

    Stage known(int stage) {
        if (stage < 0 || stage >= stages.size()) {
            throw new IndexOutOfBoundsException();
        }
        return stages.get(stage);
    }

    Stage knownWithInbox(int stage) {
        if (stage == 0) {
            throw new IndexOutOfBoundsException();
        }
        return known(stage);
    }

    static void within(int value, int least, int most) {
        if (value < least || value > most) {
            throw new IllegalArgumentException();
        }
    }

    static void allow(boolean allowed) {
        if (!allowed) {
            throw new IllegalStateException();
        }
    }

    int stage(int cards, int size, int time, int mark, boolean full) {
        within(cards, 1, 9);
        within(size, 1, 10);
        within(time, 1, 9);
        within(mark, 1, 9);
        allow(stages.size() < 6);
        Stage stage = new Stage();
        stage.size = size;
        stage.time = time;
        stage.mark = mark;
        for (int i = 0; i < cards; i++) {
            Card card = new Card(Place.BOARD);
            stage.production.add(card);
            if (full) {
                card.place = Place.ATTACHED;
                Container container = new Container();
                container.units = size;
                container.production = card;
                stage.market.addLast(container);
                entered += size;
            }
        }
        if (!stages.isEmpty()) {
            stage.conveyance.add(new Card(Place.WAITING));
        }
        stages.add(stage);
        return stages.size() - 1;
    }

    int way(int stage, int steps) {
        Stage at = knownWithInbox(stage);
        within(steps, 0, 5);
        int before = at.way;
        at.way = steps;
        return before;
    }

    int mark(int stage, int mark) {
        Stage at = known(stage);
        within(mark, 1, 9);
        int before = at.mark;
        at.mark = mark;
        return before;
    }

    int rule(boolean toFirst) {
        int before = first ? 1 : 0;
        first = toFirst;
        return before;
    }

    int demand(int units) {
        within(units, 0, 20);
        int before = demand;
        demand = units;
        return before;
    }

    int stop(int stage) {
        Stage at = known(stage);
        at.stopped = !at.stopped;
        return at.stopped ? 1 : 0;
    }

    int issue(int stage) {
        Stage at = known(stage);
        allow(at.production.size() < 9);
        at.production.add(new Card(Place.BOARD));
        return at.production.size();
    }

    int retire(int stage) {
        Stage at = known(stage);
        Card card = one(at.production, Place.BOARD);
        allow(card != null && at.production.size() > 1);
        at.production.remove(card);
        at.run = (int) Math.min(at.run, count(at.production, Place.BOARD));
        return at.production.size();
    }

    int issueConveyance(int stage) {
        Stage at = knownWithInbox(stage);
        allow(at.conveyance.size() < 5);
        at.conveyance.add(new Card(Place.WAITING));
        return at.conveyance.size();
    }

    int retireConveyance(int stage) {
        Stage at = knownWithInbox(stage);
        Card card = one(at.conveyance, Place.WAITING);
        allow(card != null && at.conveyance.size() > 1);
        at.conveyance.remove(card);
        return at.conveyance.size();
    }

    int needed(int stage, int safety) {
        Stage at = known(stage);
        within(safety, 0, 100);
        int lead = at.mark * at.time + (stage + 1 < stages.size() ? stages.get(stage + 1).way : 0);
        int cards = 1;
        while (cards * 100 * at.size < demand * lead * (100 + safety)) {
            cards++;
        }
        return cards;
    }

    int step(int steps) {
        within(steps, 1, 50);
        allow(!stages.isEmpty());
        int got = 0;
        for (int i = 0; i < steps; i++) {
            time++;
            got += customers();
            for (int s = stages.size() - 1; s >= 0; s--) {
                work(s);
            }
            for (int s = stages.size() - 1; s >= 1; s--) {
                convey(stages.get(s), stages.get(s - 1));
            }
        }
        return got;
    }

    private int customers() {
        int got = 0;
        Stage end = stages.get(stages.size() - 1);
        for (int wanted = demand + backlog; wanted > 0; wanted--) {
            if (!takeUnit(end.market)) {
                break;
            }
            got++;
        }
        backlog = demand + backlog - got;
        taken += got;
        if (backlog != 0) {
            shortSteps++;
        }
        return got;
    }

    /** One unit at a time, so that no rule about whole containers is needed. */
    private boolean takeUnit(ArrayDeque<Container> from) {
        Container head = from.peekFirst();
        if (head == null) {
            return false;
        }
        head.units--;
        if (first || head.units == 0) {
            if (head.production != null) {
                head.production.place = Place.BOARD;
                head.production = null;
            }
            if (head.conveyance != null) {
                head.conveyance.place = Place.WAITING;
                head.conveyance = null;
            }
        }
        if (head.units == 0) {
            from.removeFirst();
        }
        return true;
    }

    private void work(int number) {
        Stage at = stages.get(number);
        if (at.stopped) {
            return;
        }
        if (at.making != null) {
            at.left--;
            if (at.left > 0) {
                return;
            }
            at.making.production.place = Place.ATTACHED;
            at.market.addLast(at.making);
            at.making = null;
        }
        long onBoard = count(at.production, Place.BOARD);
        if (at.run == 0 && onBoard >= at.mark) {
            at.run = (int) onBoard;
        }
        if (at.run > 0) {
            if (number == 0 || units(at.inbox) >= at.size) {
                begin(at, number);
            } else {
                at.starved++;
            }
        }
    }

    private void begin(Stage at, int number) {
        for (int i = 0; i < at.size; i++) {
            if (number == 0) {
                entered++;
            } else {
                takeUnit(at.inbox);
            }
        }
        at.making = new Container();
        at.making.units = at.size;
        at.making.production = one(at.production, Place.BOARD);
        at.making.production.place = Place.MAKING;
        at.left = at.time;
        at.run--;
    }

    private void convey(Stage at, Stage ahead) {
        for (Iterator<Container> all = at.travelling.iterator(); all.hasNext();) {
            Container container = all.next();
            container.toGo--;
            if (container.toGo == 0) {
                all.remove();
                arrive(at, container);
            }
        }
        Card card = one(at.conveyance, Place.WAITING);
        while (card != null && !ahead.market.isEmpty()) {
            Container container = ahead.market.removeFirst();
            if (container.production != null) {
                container.production.place = Place.BOARD;
                container.production = null;
            }
            container.conveyance = card;
            container.toGo = at.way;
            if (at.way == 0) {
                arrive(at, container);
            } else {
                card.place = Place.TRAVELLING;
                at.travelling.add(container);
            }
            card = one(at.conveyance, Place.WAITING);
        }
    }

    private static void arrive(Stage at, Container container) {
        container.conveyance.place = Place.IN_INBOX;
        at.inbox.addLast(container);
    }

    String all() {
        StringBuilder text = new StringBuilder();
        int stock = 0;
        for (Stage at : stages) {
            stock += units(at.market) + units(at.inbox) + units(at.travelling);
            stock += at.making == null ? 0 : at.making.units;
        }
        text.append("time ").append(time);
        text.append(" taken ").append(taken);
        text.append(" backlog ").append(backlog);
        text.append(" short ").append(shortSteps);
        text.append(" stock ").append(stock);
        text.append(" flow ").append(entered - taken);
        for (int i = 0; i < stages.size(); i++) {
            tell(text, i, stages.get(i));
        }
        return text.toString();
    }

    private static void tell(StringBuilder text, int number, Stage at) {
        text.append(" | ").append(number);
        text.append(" board ").append(count(at.production, Place.BOARD));
        text.append(" attached ").append(count(at.production, Place.ATTACHED));
        text.append(" left ").append(at.making == null ? 0 : at.left);
        text.append(" run ").append(at.run);
        text.append(" market ").append(units(at.market));
        text.append(" first ").append(at.market.isEmpty() ? 0 : at.market.peekFirst().units);
        text.append(" inbox ").append(units(at.inbox));
        text.append(" waiting ").append(count(at.conveyance, Place.WAITING));
        text.append(" travelling ").append(count(at.conveyance, Place.TRAVELLING));
        text.append(" starved ").append(at.starved);
    }
}
