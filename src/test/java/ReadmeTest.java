/** The example of README.md, line by line. */
public final class ReadmeTest {
    public static void main(String[] args) {
        ChordMover mover = new ChordMover();
        Checks.due("feed", mover.feed(0x5b435d48, 0x656c6c6f, 0x205b475d, 0x796f7520, 0x20202020), 20);
        Checks.due("song(15)", mover.song(15), 0);
        Checks.due("move(2)", mover.move(2), 2);
        Checks.due("write()", mover.write(), 17);
        Checks.due("told(0)", mover.told(0), 'D');
        Checks.due("OUT", Checks.told(mover), "D     A\nHello you");
        Checks.strings(mover, 7, 0, 4, 9);
        Checks.due("fret(0, 0, 0, 2)", mover.fret(0, 0, 0, 2), 2);
        Checks.due("easiest()", mover.easiest(), 2);
        // 0003 and then 0x75: 6 + 9 + 17, while the easier 000x gives 4 + 12 + 17.
        Checks.due("played(0)", mover.played(0), 1);
        Checks.due("guess()", mover.guess(), -100);
        Checks.end();
    }
}
