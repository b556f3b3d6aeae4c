import java.util.Arrays;

/**
 * "If several apply, IndexOutOfBoundsException goes first, then IllegalArgumentException": every call with every mix
 * of arguments just inside and just outside of their bounds, where nothing at all is possible now, where much is
 * possible, and in a new chat, where nothing exists.
 */
public final class FirstExceptionTest {
    private static final String STATE = Check.nameOf(Check.STATE);
    /** In place of the exception that is due: the call is answered, whatever the answer. */
    private static final String ANSWERED = "an answer";
    /** The call is answered, or is not possible now. */
    private static final String FREE = "an answer, or " + STATE;

    private interface Call {
        Object of(MarkChat chat, int[] arguments);
    }

    /** The bounds of an argument; an index beyond them is of something that does not exist. */
    private static final class Bounds {
        final boolean isIndex;
        final int low;
        final int high;

        Bounds(boolean isIndex, int low, int high) {
            this.isIndex = isIndex;
            this.low = low;
            this.high = high;
        }

        boolean hold(int value) {
            return value >= low && value <= high;
        }

        int[] values() {
            return new int[] {low - 1, low, high, high + 1, Integer.MIN_VALUE, Integer.MAX_VALUE};
        }
    }

    private final Twins.Scene scene;
    private final boolean isNothingPossible;
    private final Bounds user;
    private final Bounds message;
    private final Bounds parent;
    private final Bounds spend;
    private final Bounds task;
    private final Bounds channel = new Bounds(true, 0, 5);
    private final Bounds amount = new Bounds(false, 1, 1000000);
    private final Bounds place = new Bounds(true, 0, Integer.MAX_VALUE);

    private FirstExceptionTest(Twins.Scene scene, boolean isNothingPossible, int[] sizes) {
        this.scene = scene;
        this.isNothingPossible = isNothingPossible;
        user = new Bounds(true, 0, sizes[0] - 1);
        message = new Bounds(true, 0, sizes[1] - 1);
        parent = new Bounds(true, -1, sizes[1] - 1);
        spend = new Bounds(true, 0, sizes[2] - 1);
        task = new Bounds(true, 0, sizes[3] - 1);
    }

    public static void main(String[] args) {
        new FirstExceptionTest(Chats::nothingPossible, true, new int[] {12, 80, 60, 60}).play();
        new FirstExceptionTest(Chats::ordinary, false, new int[] {4, 3, 2, 3}).play();
        new FirstExceptionTest(MarkChat::new, false, new int[] {0, 0, 0, 0}).play();
        budgetAtItsLimit();
        Check.end();
    }

    private static Bounds range(int low, int high) {
        return new Bounds(false, low, high);
    }

    private void play() {
        String now = isNothingPossible ? STATE : FREE;
        mixes("user", (chat, a) -> chat.user(a[0]), now, range(0, 3));
        mixes("role", (chat, a) -> chat.role(a[0], a[1]), ANSWERED, user, range(0, 3));
        mixes("ends", (chat, a) -> chat.ends(a[0], a[1]), ANSWERED, user, range(-1, 10000));
        mixes("budget", (chat, a) -> chat.budget(a[0], a[1]), ANSWERED, channel, range(0, 1000000));
        mixes("post", (chat, a) -> chat.post(a[0], a[1], a[2]), now, user, channel, parent);
        mixes("edit", (chat, a) -> chat.edit(a[0], a[1]), now, user, message);
        mixes("mark", (chat, a) -> chat.mark(a[0], a[1], a[2]), now, user, message, range(-1, 1));
        mixes("spend", (chat, a) -> chat.spend(a[0], a[1], a[2]), now, user, message, amount);
        mixes("task", (chat, a) -> chat.task(a[0], a[1], a[2], a[3]), now, user, message, user, range(0, 10000));
        mixes("done", (chat, a) -> chat.done(a[0], a[1]), now, user, task);
        mixes("hold", (chat, a) -> chat.hold(a[0]), ANSWERED, channel);
        mixes("archive", (chat, a) -> chat.archive(a[0]), now, channel);
        mixes("pass", (chat, a) -> chat.pass(a[0]), ANSWERED, range(1, 1000));
        mixes("messageOf", (chat, a) -> chat.messageOf(a[0], a[1]), ANSWERED, message, range(0, 6));
        mixes("isApproved", (chat, a) -> chat.isApproved(a[0], a[1], false), ANSWERED, message, amount);
        mixes("isApproved anew", (chat, a) -> chat.isApproved(a[0], a[1], true), ANSWERED, message, amount);
        mixes("spendOf", (chat, a) -> chat.spendOf(a[0], a[1]), ANSWERED, spend, range(0, 3));
        mixes("left", (chat, a) -> chat.left(a[0]), ANSWERED, channel);
        mixes("next", (chat, a) -> chat.next(a[0], a[1]), ANSWERED, user, place);
        mixes("taskOf", (chat, a) -> chat.taskOf(a[0]), ANSWERED, task);
        mixes("label", (chat, a) -> chat.label(a[0], a[1]), ANSWERED, task, place);
    }

    private void mixes(String name, Call call, String otherwise, Bounds... bounds) {
        mix(name, call, otherwise, bounds, new int[bounds.length], 0);
    }

    private void mix(String name, Call call, String otherwise, Bounds[] bounds, int[] chosen, int at) {
        if (at == bounds.length) {
            look(name, call, otherwise, bounds, chosen);
            return;
        }
        int[] values = bounds[at].values();
        for (int i = 0; i < values.length; i++) {
            chosen[at] = values[i];
            mix(name, call, otherwise, bounds, chosen, at + 1);
        }
    }

    private void look(String name, Call call, String otherwise, Bounds[] bounds, int[] chosen) {
        String due = otherwise;
        for (int i = 0; i < bounds.length; i++) {
            if (!bounds[i].isIndex && !bounds[i].hold(chosen[i])) {
                due = Check.nameOf(Check.ARGUMENT);
            }
        }
        for (int i = 0; i < bounds.length; i++) {
            if (bounds[i].isIndex && !bounds[i].hold(chosen[i])) {
                due = Check.nameOf(Check.INDEX);
            }
        }
        MarkChat chat = scene.chat();
        String got = Check.outcome(() -> call.of(chat, chosen));
        String what = name + Arrays.toString(chosen);
        boolean isAnswered = !got.startsWith("throws.");
        if (due.equals(ANSWERED) && isAnswered || due.equals(FREE) && (isAnswered || got.equals(STATE))) {
            got = due;
        }
        Check.report(what, due, got);
    }

    /** Beyond 512 calls, where answers are free: no less than 1000 calls come to the limit of a budget. */
    private static void budgetAtItsLimit() {
        MarkChat chat = new MarkChat();
        for (int i = 0; i < 1000; i++) {
            chat.budget(0, 1000000);
        }
        Check.refused("a budget that would be too high", Check.STATE, () -> chat.budget(0, 1));
        Check.refused("and cents out of range", Check.ARGUMENT, () -> chat.budget(0, 1000001));
        Check.refused("and cents below 0", Check.ARGUMENT, () -> chat.budget(0, -1));
        Check.refused("and no such channel", Check.INDEX, () -> chat.budget(6, 1000001));
    }
}
