import java.io.IOException;

/** Every sentence of the document: its boundary cases, and that a call it refuses changes nothing. */
public final class SentencesTest {
    /**
     * A state in which much can be told apart: crossers 0, 1 are in, 2 is south, BEAT is 2, sheet 3
     * is missing, an image differs from what is now, two numbers wait, and 1+ is on the tape.
     */
    static final String RICH = """
        rope(5); rhyme(6, 21); turner(30); turner(40); relieve(1)
        crosser(25, 3, 4); crosser(48, 9, 2); crosser(0, 0, 4)
        change(0, 1, 77); write(4, 0); write(b=2, 1); seed(99); go(3); splice(1, 3)
        sheet(0, 8, 5); put(0, 0, 1); put(0, 1, 2); put(0, 2, 3); put(0, 4, 50)
        sheet(1, 16, 3); put(1, 0, 99); put(1, 2, 7)
        sheet(2, 16, 40); put(2, 39, 5)
        voice(1, 3, 1); tell(7); feed(0x6b, 1); image()
        text(0); check(); beats(2); splice(3, 33); tell(0); tell(8); feed(0x2b31, 2)
        """;

    /** The last BEAT, behind 501 calls: ten more can be made, and one that is refused. */
    static final String LAST_BEAT = "crosser(0, 0, 0); 499 * beats(200); beats(199)\n";

    /** Two at place 0, one at place 1 who needs two jumps: north behind 6, 10 and 10 beats. */
    static final String THREE = "turner(50); crosser(0, 0, 0); crosser(0, 0, 0); crosser(21, 0, 1); go(7)\n";

    public static void main(String[] args) throws IOException {
        Due due = new Due("SentencesTest");
        Sentences s = new Sentences(due);
        ErrorSentences.ask(s);
        RopeSentences.ask(s);
        CrosserSentences.ask(s);
        TextSentences.ask(s);
        BeatSentences.ask(s);
        ThoughtSentences.ask(s);
        VoiceSentences.ask(s);
        SheetSentences.ask(s);
        ToldSentences.ask(s);
        s.end();
        due.end();
    }
}
