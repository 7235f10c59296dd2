/** "An object is used for at most 512 calls after it has been made": the last of them is answered like the first. */
public final class UseTest {
    private static final int MOST_CALLS = 512;
    private int calls = 0;
    private final HungFloors x = new HungFloors();

    private void due(String call, long got, long want) {
        calls++;
        Check.due("call " + calls + ": " + call, got, want);
    }

    /** Six floors, each hung from the one above by rods that share; as long as a text can be. */
    private static String longText() {
        StringBuilder s = new StringBuilder();
        for (char c = 'a'; c <= 'f'; c++) {
            s.append("floor ").append(c).append(" weighs ").append(c == 'f' ? 7 : 0).append(" can ")
                    .append(c == 'f' ? 9 : 999).append(" stands 9;");
        }
        for (char d = 'p'; d <= 's'; d++) {
            s.append("drawing ").append(d).append(";");
            s.append("rod a from roof by a can 999;rod b from a by b can 9;rod c from b by c can 9;");
            s.append("rod d from c by d can 9;rod e from d by e can 9;rod f from e by f can 9;");
            s.append("rod g from roof by b can 999;");
        }
        while (s.length() < 1600) {
            s.append(' ');
        }
        return s.toString();
    }

    private void tell(String text) {
        int[] n = new int[5];
        for (int start = 0; start < text.length(); start += 20) {
            for (int i = 0; i < 20; i++) {
                n[i / 4] = n[i / 4] << 8 | text.charAt(start + i);
            }
            due("feed", x.feed(n[0], n[1], n[2], n[3], n[4]), start + 20);
        }
        due("house", x.house(), 4);
    }

    private void papers() {
        for (int i = 0; i < 60; i++) {
            due("paper", x.paper(i % 6, i, i % 4, 1, true), i);
        }
        for (int i = 0; i < 9; i++) {
            due("story", x.story(i, 10, 5) ? 1 : 0, 1);
        }
        for (int i = 1; i <= 100; i++) {
            due("later", x.later(1000), 1000 * i);
        }
        for (int i = 0; i < 60; i++) {
            due("untell", x.untell(i) ? 1 : 0, 1);
        }
        due("later", x.later(1), -1);
    }

    /** b has two holders: half of what is below it goes on to a. Three people who weigh 3 each are too many on f. */
    private void dearCalls() {
        while (calls + 11 <= MOST_CALLS) {
            due("bears", x.bears(3, 0, 0), 7);
            due("by", x.bears(3, 0, 1), 2);
            due("odds of one who weighs 2: all may stand", x.odds(3, 1, 10, 0), 0);
            due("odds of one who weighs 3: one floor of six", x.odds(3, 1, 20, 1), 6);
            due("most on f", x.most(3, 5), 2);
            due("fall", x.fall(3, 1), 0);
            due("mend", x.mend(3, 1), 0);
            due("elsewhere: where c bears 7 of 999", x.elsewhere(3, 0), 5);
            due("spent", x.spent(0, 0, 99, 0), 5);
            due("hollow", x.hollow(0), 60);
            due("believed", x.believed(1, 100000), 2);
        }
        while (calls < MOST_CALLS - 1) {
            due("about", x.about(3), 100000);
        }
        due("the last one", x.weight(3, 1, 0), 7);
    }

    public static void main(String[] args) {
        UseTest run = new UseTest();
        run.tell(longText());
        run.papers();
        run.dearCalls();
        Check.due("calls", run.calls, MOST_CALLS);
        Check.finish();
    }
}
