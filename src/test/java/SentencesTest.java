import java.io.IOException;
import java.util.List;

/** Every sentence of the document that promises something, each with tests of its own. */
public final class SentencesTest {
    /** What these say is told by the sentences behind them, or by the face, which FaceTest looks at. */
    private static final List<String> WITHOUT_BOUNDARY = List.of(
            "What it is: A dangerous goods desk for a ship: classes of goods with a table of how far they must be "
                    + "apart, places in holds, bays and decks, limited and excepted quantities, subsidiary hazards, "
                    + "stowage on or under deck, breaches, and how few goods have to leave so that the plan is clean.",
            "Terms: The table, limits and goods are told by calls; goods are loaded, moved and unloaded; breaches and "
                    + "better places can be asked for.",
            "Goods: Ahead of the calls `setDistance`, `setQuantities`, `bar`, `distance` the interface says: ---- "
                    + "rules.",
            "Goods: Ahead of the calls `add`, `setQuantity`, `put`, `goods`, `placeOf`, `isLimited`, `isExcepted`, "
                    + "`need` the interface says: ---- goods.",
            "Goods: Ahead of the calls `areInBreach`, `isMisplaced`, `breaches`, `inBreachWith`, `isClean`, `canPut`, "
                    + "`placeFor`, `fewest`, `leaving` the interface says: ---- the plan.");

    private SentencesTest() {
    }

    public static void main(String[] args) throws IOException {
        Sentences sentences = new Sentences();
        Refusals refusals = new Refusals(sentences);
        new TermsSentences(sentences, refusals).tell();
        new RulesSentences(sentences, refusals).tell();
        new GoodsSentences(sentences, refusals).tell();
        new NeedSentences(sentences, refusals).tell();
        new PlanSentences(sentences, refusals).tell();
        new LeavingSentences(sentences).tell();
        sentences.end(Document.sentences(), WITHOUT_BOUNDARY);
    }
}
