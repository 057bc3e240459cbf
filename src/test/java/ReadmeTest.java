/** The lines that README.md shows under Use answer as it says. */
final class ReadmeTest {
    private static final Check CHECK = new Check();

    public static void main(String[] args) {
        TurnPosts posts = new TurnPosts();
        CHECK.due("feed", posts.feed(0x63726f73, 0x73696e67, 0x20302031, 0x3b63726f, 0x7373696e), 20);
        CHECK.due("feed", posts.feed(0x67203320, 0x313b726f, 0x61642030, 0x20313b72, 0x6f616420), 40);
        CHECK.due("feed", posts.feed(0x3120303b, 0x70657273, 0x6f6e2031, 0x20302039, 0x3b202020), 60);
        CHECK.due("shire(57)", posts.shire(57), 0);
        CHECK.due("fault()", posts.fault(), TurnPosts.NONE);
        CHECK.due("comes(0, 0)", posts.comes(0, 0), 1);
        CHECK.due("days(1)", posts.days(1), 1);
        CHECK.due("undo()", posts.undo(), 0);
        CHECK.end("ReadmeTest");
    }
}
