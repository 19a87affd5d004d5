import java.util.List;
import java.util.function.Consumer;

/** What the document says ahead of the steps: the object's calls, the line, the cards, the rule. */
final class TermSentences {
    private static final String TERMS = "Terms";

    private final Sentences doc;

    TermSentences(Sentences doc) {
        this.doc = doc;
    }

    void all() {
        doc.says("What it is",
                "An object is used for at most 512 calls after it has been made; what later calls answer is free.",
                this::the512thCall);
        doc.says(TERMS, "The aim is that in each loop the cards that are attached and those that are free are always"
                + " as many as were issued.", this::cardsAreKept);
        doc.says(TERMS, "If several exceptions apply to a call, the one that its comment lists first is thrown.",
                this::theFirstOfSeveralExceptions);
        doc.says(TERMS, "A call that throws an exception changes nothing.", this::throwingChangesNothing);
        doc.says(TERMS, "It has at most 6 stages, numbered from 0 in the order in which they are added.",
                this::sixStages);
        doc.says(TERMS, "A stage has a market behind it, from which the next stage is supplied, the last one's"
                + " customers; each stage but the first one has an inbox ahead of it.", this::whoSuppliesWhom);
        doc.says(TERMS, "A container of a stage has as many units as its size.", this::containersAreOfTheSize);
        doc.says(TERMS, "The first stage makes units of nothing; a container of any other one takes as many units as it"
                + " has out of the inbox.", this::whatContainersAreMadeOf);
        doc.says(TERMS, "Units are taken out of a market, or an inbox, from the container that came first, as long as it"
                + " has any, then from the next one.", this::unitsOfTheFirstContainer);
        doc.says(TERMS, "An empty container is gone.", this::emptyIsGone);
        theCards();
        theRule();
        doc.tellsNoAnswer(TERMS, "The line.");
        doc.tellsNoAnswer(TERMS, "The calls lay the line out, let steps pass, stop stages, and issue and retire cards;"
                + " stocks, starving and the cards that would be needed are asked.");
        headingsOfTheFace();
    }

    private void theCards() {
        doc.tellsNoAnswer(TERMS, "Production cards.");
        doc.tellsNoAnswer(TERMS, "Conveyance cards.");
        doc.says(TERMS, "Each stage has a loop of them.", this::productionLoops);
        doc.says(TERMS, "A card is on the board of the stage, or with the container that it makes, or attached to a"
                + " container in its market.", this::whereProductionCardsAre);
        doc.says(TERMS, "Each stage but the first one has a loop of them.", this::conveyanceLoops);
        doc.says(TERMS, "A card waits at the market of the stage ahead, or travels with a container to the inbox, or is"
                + " attached to a container there.", this::whereConveyanceCardsAre);
    }

    private void theRule() {
        doc.says(TERMS, "The rule tells when a card comes off a container out of which units are taken: FIRST, with the"
                + " first unit, or LAST, with the last one.", this::firstOrLastUnit);
        doc.says(TERMS, "(A container may be begun under LAST and ended under FIRST: then its card comes off with the"
                + " next unit that is taken under FIRST, though others were taken ahead of it.)",
                this::begunUnderOneRuleEndedUnderTheOther);
        doc.says(TERMS, "A card that comes off in an inbox waits at the market of the stage ahead then, one that comes"
                + " off in the market of the last stage is on the board of that stage.", this::whereCardsComeOffTo);
    }

    private void headingsOfTheFace() {
        doc.tellsNoAnswer(TERMS, "Ahead of the calls `stage`, `way`, `mark`, `rule`, `demand`, `stop` the interface says:"
                + " ---- the line.");
        doc.tellsNoAnswer(TERMS, "Ahead of the calls `issue`, `retire`, `issueConveyance`, `retireConveyance`, `needed`"
                + " the interface says: ---- cards.");
        doc.tellsNoAnswer(TERMS, "Ahead of the calls `step`, `time` the interface says: ---- steps.");
        doc.tellsNoAnswer(TERMS, "Ahead of the calls `stages`, `board`, `attached`, `left`, `run`, `market`, `inbox`,"
                + " `waiting`, `travelling`, `firstUnits` the interface says: ---- what is.");
        doc.tellsNoAnswer(TERMS, "Ahead of the calls `taken`, `backlog`, `shortSteps`, `starved`, `stock`, `stockByFlow`"
                + " the interface says: ---- what was.");
    }

    /** stage, demand and 509 times 50 steps, the most that 511 calls can add up to. */
    private void the512thCall() {
        doc.same("the time", after511Calls().time(), 25450);
        doc.same("the units taken", after511Calls().taken(), 10);
        doc.same("the backlog", after511Calls().backlog(), 20 * 25450 - 10);
        doc.same("the short steps", after511Calls().shortSteps(), 25450);
        doc.same("the steps that starved", after511Calls().starved(0), 0);
        doc.same("the market", after511Calls().market(0), 0);
        doc.same("one step more", after511Calls().step(1), 0);
    }

    private static KanbanLoop after511Calls() {
        KanbanLoop line = Lines.of(1, 10, 9, 9, true);
        line.demand(20);
        for (int i = 0; i < 509; i++) {
            line.step(50);
        }
        return line;
    }

    /** The containers that are fetched have one unit, so that each one in an inbox has its card. */
    private void cardsAreKept() {
        for (int size = 1; size <= 3; size++) {
            KanbanLoop line = Lines.of(4, 1, 2, 2, true);
            line.stage(3, size, 1, 1, false);
            line.stage(2, 1, 3, 2, true);
            line.way(1, 2);
            line.issueConveyance(1);
            line.issueConveyance(1);
            for (int step = 0; step < 60; step++) {
                line.demand(step % 4);
                line.rule(step % 3 == 0);
                line.step(1);
                loopsHave(line, new int[] {4, 3, 2}, 3);
            }
        }
    }

    private void loopsHave(KanbanLoop line, int[] production, int conveyance) {
        for (int i = 0; i < production.length; i++) {
            int working = line.left(i) > 0 ? 1 : 0;
            doc.same("the production cards of " + i, line.board(i) + line.attached(i) + working, production[i]);
        }
        doc.same("the conveyance cards", line.waiting(1) + line.travelling(1) + line.inbox(1), conveyance);
    }

    private void theFirstOfSeveralExceptions() {
        doc.refuses("stage out of range, and 6 stages", () -> Lines.busy(6), Sentences.BAD_ARGUMENT,
                line -> line.stage(0, 1, 1, 1, true));
        doc.refuses("way of no stage, too long", () -> Lines.busy(2), Sentences.NO_STAGE, line -> line.way(2, 6));
        doc.refuses("way of the first stage, too short", () -> Lines.busy(2), Sentences.NO_STAGE,
                line -> line.way(0, -1));
        doc.refuses("mark of no stage, too small", () -> Lines.busy(2), Sentences.NO_STAGE, line -> line.mark(2, 0));
        doc.refuses("mark of no stage, too large", () -> Lines.busy(2), Sentences.NO_STAGE, line -> line.mark(-1, 10));
        doc.refuses("needed of no stage, too small", () -> Lines.busy(2), Sentences.NO_STAGE,
                line -> line.needed(-1, -1));
        doc.refuses("needed of no stage, too large", () -> Lines.busy(2), Sentences.NO_STAGE,
                line -> line.needed(2, 101));
        doc.refuses("no card waits where there is no inbox", () -> Lines.busy(2), Sentences.NO_STAGE,
                line -> line.retireConveyance(0));
        doc.refuses("no step, and no stages", () -> Lines.busy(0), Sentences.BAD_ARGUMENT, line -> line.step(0));
        doc.refuses("51 steps, and no stages", () -> Lines.busy(0), Sentences.BAD_ARGUMENT, line -> line.step(51));
    }

    private void throwingChangesNothing() {
        for (int stages = 1; stages <= Sentences.MOST_STAGES; stages++) {
            int many = stages;
            for (Consumer<KanbanLoop> call : callsThatThrow(stages)) {
                Class<?> thrown = Checks.thrownBy(() -> call.accept(Lines.busy(many)));
                doc.isTrue("one of the calls throws nothing", thrown != null);
                doc.isTrue("one of the calls throws " + thrown, thrown == Sentences.NO_STAGE
                        || thrown == Sentences.BAD_ARGUMENT || thrown == Sentences.BAD_STATE);
                KanbanLoop asked = Lines.busy(stages);
                Checks.thrownBy(() -> call.accept(asked));
                String due = Telling.future(Lines.busy(stages));
                doc.isTrue("one of the calls changes the line of " + stages, Telling.future(asked).equals(due));
            }
        }
    }

    private static List<Consumer<KanbanLoop>> callsThatThrow(int no) {
        return List.of(
                line -> line.stage(10, 1, 1, 1, true), line -> line.stage(1, 1, 1, 0, true),
                line -> line.way(no, 1), line -> line.way(0, 1), line -> line.way(no - 1, 6),
                line -> line.mark(no, 1), line -> line.mark(no - 1, 10), line -> line.demand(21),
                line -> line.demand(-1), line -> line.stop(no), line -> line.stop(-1), line -> line.issue(no),
                line -> line.retire(no), line -> line.issueConveyance(no), line -> line.issueConveyance(0),
                line -> line.retireConveyance(no), line -> line.retireConveyance(0), line -> line.needed(no, 1),
                line -> line.needed(no - 1, 101), line -> line.step(0), line -> line.step(51),
                line -> line.board(no), line -> line.firstUnits(-1), line -> line.starved(no));
    }

    private void sixStages() {
        KanbanLoop line = new KanbanLoop();
        for (int i = 0; i < 6; i++) {
            doc.same("the number of the next stage", line.stage(1 + i, 1, 1, 1, true), i);
            doc.same("it is the one of this number", line.attached(i), 1 + i);
        }
        doc.same("the first is the first still", line.attached(0), 1);
        doc.refuses("the seventh", () -> Lines.roomy(6), Sentences.BAD_STATE, six -> six.stage(1, 1, 1, 1, true));
    }

    private void whoSuppliesWhom() {
        KanbanLoop line = Lines.of(1, 4, 1, 9, true);
        line.stage(1, 6, 1, 9, true);
        line.stage(1, 5, 1, 9, true);
        line.demand(1);
        doc.same("customers take", line.step(1), 1);
        doc.same("of the last stage's market", line.market(2), 4);
        doc.same("the stage 2 is supplied", line.inbox(2), 6);
        doc.same("by the stage 1", line.market(1), 0);
        doc.same("the stage 1 is supplied", line.inbox(1), 4);
        doc.same("by the stage 0", line.market(0), 0);
        doc.same("the stage 0 has no inbox", line.inbox(0), 0);
    }

    private void containersAreOfTheSize() {
        for (int size : new int[] {1, 2, 9, 10}) {
            KanbanLoop first = Lines.of(2, size, 1, 1, false);
            first.step(2);
            doc.same("of the first stage", first.firstUnits(0), size);
            doc.same("in full markets", Lines.of(2, size, 1, 1, true).firstUnits(0), size);
            KanbanLoop fed = Lines.inboxOf(3, 4, size, 1);
            fed.mark(1, 8);
            fed.step(2);
            doc.same("of another stage, out of containers of 4", fed.firstUnits(1), size);
        }
    }

    private void whatContainersAreMadeOf() {
        KanbanLoop first = Lines.of(1, 10, 9, 1, false);
        first.step(1);
        doc.same("the first stage begins with nothing", first.left(0), 9);
        doc.same("and makes ten units", first.stock(), 10);
        KanbanLoop fed = Lines.inboxOf(2, 5, 4, 9);
        fed.mark(1, 8);
        fed.step(1);
        doc.same("another one takes its units out of the inbox", fed.inbox(1), 6);
        doc.same("and makes none", fed.stock(), 10);
        KanbanLoop one = Lines.inboxOf(1, 3, 4, 9);
        one.mark(1, 8);
        one.step(1);
        doc.same("with too few it begins none", one.left(1), 0);
        doc.same("and takes none", one.inbox(1), 3);
    }

    private void unitsOfTheFirstContainer() {
        KanbanLoop line = Lines.of(3, 3, 1, 9, true);
        afterDemand(line, 2);
        doc.same("of the first one: left there", line.firstUnits(0), 1);
        afterDemand(line, 1);
        doc.same("the last of the first one: then the next is first", line.firstUnits(0), 3);
        doc.same("in all", line.market(0), 6);
        afterDemand(line, 4);
        doc.same("all of one, and of the next", line.firstUnits(0), 2);
        doc.same("that is all", line.market(0), 2);
        KanbanLoop wide = Lines.of(3, 3, 1, 9, true);
        afterDemand(wide, 8);
        doc.same("through two into the third", wide.firstUnits(0), 1);
        inboxUnitsOfTheFirstContainer();
    }

    private void inboxUnitsOfTheFirstContainer() {
        int[] cardsOff = {0, 0, 1, 1, 1, 2, 2};
        for (int size = 1; size <= 7; size++) {
            KanbanLoop line = Lines.inboxOf(3, 3, size, 9);
            line.mark(1, 8);
            line.step(1);
            doc.same("left of nine by " + size, line.inbox(1), 9 - size);
            doc.same("containers emptied by " + size, line.waiting(1), cardsOff[size - 1]);
        }
    }

    private static void afterDemand(KanbanLoop line, int units) {
        line.demand(units);
        line.step(1);
    }

    private void emptyIsGone() {
        KanbanLoop emptied = Lines.of(2, 2, 1, 9, true);
        afterDemand(emptied, 2);
        doc.same("the next one is the first", emptied.firstUnits(0), 2);
        doc.same("only its card is attached", emptied.attached(0), 1);
        for (int units = 1; units <= 2; units++) {
            KanbanLoop line = Lines.of(1, 2, 1, 9, true);
            afterDemand(line, units);
            line.stage(1, 1, 1, 9, false);
            line.way(1, 1);
            line.step(1);
            doc.same("containers fetched, after " + units, line.travelling(1), 2 - units);
        }
        KanbanLoop fed = Lines.inboxOf(2, 2, 2, 1);
        fed.mark(1, 8);
        fed.step(1);
        doc.same("one is gone out of the inbox", fed.waiting(1), 1);
        fed.step(1);
        doc.same("the other one too", fed.waiting(1), 2);
        fed.step(1);
        doc.same("none of them comes again", fed.waiting(1), 2);
    }

    private void productionLoops() {
        KanbanLoop line = Lines.of(1, 1, 1, 9, false);
        line.stage(8, 1, 1, 9, false);
        line.stage(8, 1, 1, 9, false);
        doc.same("a second one of the stage 0", line.issue(0), 2);
        doc.same("a ninth one of the stage 2", line.issue(2), 9);
        doc.same("the stage 1 has its eight", line.board(1), 8);
        doc.same("and a ninth one too", line.issue(1), 9);
        doc.same("one less of the stage 2", line.retire(2), 8);
        doc.same("the stage 1 keeps its nine", line.board(1), 9);
    }

    private void whereProductionCardsAre() {
        KanbanLoop line = Lines.of(1, 2, 1, 1, false);
        production(line, 1, 0, 0);
        line.step(1);
        production(line, 0, 1, 0);
        line.step(1);
        production(line, 0, 0, 1);
        line.mark(0, 9);
        afterDemand(line, 1);
        production(line, 0, 0, 1);
        line.step(1);
        production(line, 1, 0, 0);
    }

    private void production(KanbanLoop line, int onBoard, int working, int attached) {
        doc.same("on the board", line.board(0), onBoard);
        doc.same("with the container in work", line.left(0), working);
        doc.same("attached", line.attached(0), attached);
    }

    private void conveyanceLoops() {
        KanbanLoop line = Lines.roomy(1);
        doc.same("the first stage has none", line.waiting(0), 0);
        doc.refuses("one for the first stage", () -> Lines.roomy(3), Sentences.NO_STAGE, all -> all.issueConveyance(0));
        line.stage(1, 1, 1, 9, false);
        line.stage(1, 1, 1, 9, false);
        doc.same("the stage 1 has one", line.waiting(1), 1);
        doc.same("a second one of the stage 2", line.issueConveyance(2), 2);
        doc.same("the stage 1 has one still", line.waiting(1), 1);
        doc.same("a second one of the stage 1", line.issueConveyance(1), 2);
        doc.same("which waits there", line.waiting(1), 2);
        doc.same("one less of the stage 1", line.retireConveyance(1), 1);
        doc.same("the stage 2 keeps its two", line.waiting(2), 2);
    }

    private void whereConveyanceCardsAre() {
        KanbanLoop line = Lines.of(1, 2, 1, 9, true);
        line.stage(1, 2, 1, 9, false);
        line.way(1, 1);
        conveyance(line, 1, 0, 0);
        line.step(1);
        conveyance(line, 0, 1, 0);
        line.step(1);
        conveyance(line, 0, 0, 2);
        line.mark(1, 1);
        line.step(1);
        conveyance(line, 1, 0, 0);
    }

    private void conveyance(KanbanLoop line, int waiting, int travelling, int inbox) {
        doc.same("waiting", line.waiting(1), waiting);
        doc.same("travelling", line.travelling(1), travelling);
        doc.same("with the container in the inbox", line.inbox(1), inbox);
    }

    /** Of containers of 3: the first unit, the last but one, the last one, and one of the next container. */
    private void firstOrLastUnit() {
        int[] offUnderFirst = {0, 1, 1, 1, 2};
        int[] offUnderLast = {0, 0, 0, 1, 1};
        for (int units = 0; units <= 4; units++) {
            doc.same("FIRST, customers take " + units, offForCustomers(3, units, true), offUnderFirst[units]);
            doc.same("LAST, customers take " + units, offForCustomers(3, units, false), offUnderLast[units]);
        }
        for (int units = 1; units <= 4; units++) {
            doc.same("FIRST, a stage takes " + units, offForStage(3, units, true), offUnderFirst[units]);
            doc.same("LAST, a stage takes " + units, offForStage(3, units, false), offUnderLast[units]);
        }
        doc.same("FIRST, where the first unit is the last", offForCustomers(1, 1, true), 1);
        doc.same("LAST, where the first unit is the last", offForCustomers(1, 1, false), 1);
        doc.same("FIRST, and in an inbox", offForStage(1, 1, true), 1);
        doc.same("LAST, and in an inbox", offForStage(1, 1, false), 1);
    }

    private static int offForCustomers(int size, int units, boolean first) {
        KanbanLoop line = Lines.of(2, size, 1, 9, true);
        line.rule(first);
        afterDemand(line, units);
        return line.board(0);
    }

    private static int offForStage(int size, int units, boolean first) {
        KanbanLoop line = Lines.inboxOf(2, size, units, 9);
        line.rule(first);
        line.mark(1, 8);
        line.step(1);
        return line.waiting(1);
    }

    private void begunUnderOneRuleEndedUnderTheOther() {
        for (int ahead = 1; ahead <= 3; ahead++) {
            KanbanLoop line = Lines.of(1, 4, 1, 9, true);
            afterDemand(line, ahead);
            line.rule(true);
            doc.same("no card comes off by the rule alone", line.attached(0), 1);
            afterDemand(line, 0);
            doc.same("nor by a step without a unit", line.attached(0), 1);
            afterDemand(line, 1);
            doc.same("with the next unit, after " + ahead, line.board(0), 1);
            doc.same("the rest of the container stays", line.market(0), 3 - ahead);
        }
        KanbanLoop back = Lines.of(1, 4, 1, 9, true);
        back.rule(true);
        afterDemand(back, 1);
        back.rule(false);
        afterDemand(back, 3);
        doc.same("begun under FIRST and ended under LAST, no second card", back.board(0), 1);
        inboxBegunUnderLast();
    }

    private void inboxBegunUnderLast() {
        KanbanLoop line = Lines.inboxOf(1, 4, 1, 1);
        line.mark(1, 8);
        line.step(2);
        doc.same("LAST, in an inbox", line.waiting(1), 0);
        line.rule(true);
        line.step(1);
        doc.same("with the next unit under FIRST", line.waiting(1), 1);
        doc.same("one unit is left", line.inbox(1), 1);
        line.rule(false);
        line.step(1);
        doc.same("no second card", line.waiting(1), 1);
    }

    private void whereCardsComeOffTo() {
        KanbanLoop line = Lines.inboxOf(1, 1, 1, 1);
        line.mark(1, 8);
        line.step(1);
        doc.same("off in the inbox, it waits", line.waiting(1), 1);
        doc.same("the production cards are where they were", line.board(0), 1);
        line.step(1);
        line.mark(1, 9);
        line.stop(1);
        int before = line.board(1);
        afterDemand(line, 1);
        doc.same("off in the last market, it is on the board", line.board(1), before + 1);
        doc.same("it is the last stage's own", line.board(0), 1);
    }
}
