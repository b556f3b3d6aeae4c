/**
 * "A call that throws an exception changes nothing": each call that the document refuses, for each reason that it
 * names, with the exception that is due, and with all that can be asked or told later as if it had not been made.
 */
public final class RefusedTest {
    private RefusedTest() {
    }

    public static void main(String[] args) {
        scenes();
        user();
        role();
        ends();
        budget();
        post();
        edit();
        mark();
        markToTakeOff();
        spend();
        spendNotApproved();
        task();
        done();
        holdAndArchive();
        pass();
        messageOf();
        isApproved();
        spendOf();
        left();
        next();
        taskOf();
        label();
        Check.end();
    }

    private static void index(String what, Twins.Call call) {
        Twins.refused(what, Check.INDEX, Chats::ordinary, call);
    }

    private static void argument(String what, Twins.Call call) {
        Twins.refused(what, Check.ARGUMENT, Chats::ordinary, call);
    }

    private static void state(String what, Twins.Scene scene, Twins.Call call) {
        Twins.refused(what, Check.STATE, scene, call);
    }

    /** The ordinary chat with one of its users gone at once. */
    private static Twins.Scene without(int user) {
        return () -> {
            MarkChat chat = Chats.ordinary();
            chat.ends(user, 0);
            return chat;
        };
    }

    /** A MEMBER 0 and a LEAD 1, whose YES is on the messages 0 and 1; the message 0 is archived. */
    private static MarkChat archived() {
        MarkChat chat = Chats.withUsers(1, 2);
        chat.budget(0, 1000);
        chat.post(0, 0, -1);
        chat.post(0, 0, -1);
        chat.mark(1, 0, 0);
        chat.mark(1, 1, 0);
        chat.spend(0, 1, 10);
        chat.pass(720);
        chat.archive(0);
        return chat;
    }

    /** A scene that were not what it is said to be would have calls refused for another reason. */
    private static void scenes() {
        MarkChat ordinary = Chats.ordinary();
        Check.due("ordinary: left", 3499, () -> ordinary.left(0));
        Chats.approved("ordinary: any amount", true, ordinary, 0, 1000000);
        Chats.approved("ordinary: the reply", false, ordinary, 1, 1);
        Check.due("ordinary: a DONE task", 1, () -> ordinary.taskOf(1));
        Check.due("ordinary: the hour", 4, () -> ordinary.pass(1));
        MarkChat full = Chats.full();
        Check.due("full: the last spend stands", 0, () -> full.spendOf(59, 0));
        Check.due("full: left", 400, () -> full.left(0));
        MarkChat nothing = Chats.nothingPossible();
        Check.due("nothing possible: the last message is archived", 1, () -> nothing.messageOf(79, 5));
        Check.due("nothing possible: the first one is not", 0, () -> nothing.messageOf(0, 5));
        Check.due("nothing possible: the last spend went back", 1, () -> nothing.spendOf(59, 0));
        Check.due("nothing possible: a channel is on hold", false, () -> nothing.hold(5));
        MarkChat archived = archived();
        Check.due("archived: the first message", 1, () -> archived.messageOf(0, 5));
        Check.due("archived: the other one", 0, () -> archived.messageOf(1, 5));
        Chats.approved("archived: approved", true, archived, 0, 1);
    }

    private static void user() {
        argument("user: role below GUEST", chat -> chat.user(-1));
        argument("user: role above CHIEF", chat -> chat.user(4));
        argument("user: the least role", chat -> chat.user(Integer.MIN_VALUE));
        argument("user: the greatest role", chat -> chat.user(Integer.MAX_VALUE));
        state("user: a 13th one", Chats::full, chat -> chat.user(0));
    }

    private static void role() {
        index("role: user -1", chat -> chat.role(-1, 0));
        index("role: user behind the last", chat -> chat.role(4, 0));
        argument("role: below GUEST", chat -> chat.role(1, -1));
        argument("role: above CHIEF", chat -> chat.role(1, 4));
    }

    private static void ends() {
        index("ends: user -1", chat -> chat.ends(-1, 0));
        index("ends: user behind the last", chat -> chat.ends(4, 0));
        argument("ends: hours below -1", chat -> chat.ends(1, -2));
        argument("ends: hours above 10000", chat -> chat.ends(1, 10001));
        argument("ends: the least hours", chat -> chat.ends(1, Integer.MIN_VALUE));
        argument("ends: the most hours", chat -> chat.ends(1, Integer.MAX_VALUE));
    }

    private static void budget() {
        index("budget: channel -1", chat -> chat.budget(-1, 1));
        index("budget: channel 6", chat -> chat.budget(6, 1));
        argument("budget: cents below 0", chat -> chat.budget(0, -1));
        argument("budget: cents above 1000000", chat -> chat.budget(0, 1000001));
        argument("budget: the least cents", chat -> chat.budget(0, Integer.MIN_VALUE));
        argument("budget: the most cents", chat -> chat.budget(0, Integer.MAX_VALUE));
    }

    private static void post() {
        index("post: user -1", chat -> chat.post(-1, 0, -1));
        index("post: user behind the last", chat -> chat.post(4, 0, -1));
        index("post: channel -1", chat -> chat.post(0, -1, -1));
        index("post: channel 6", chat -> chat.post(0, 6, -1));
        index("post: parent -2", chat -> chat.post(0, 0, -2));
        index("post: parent behind the last", chat -> chat.post(0, 0, 3));
        state("post: who is gone", without(0), chat -> chat.post(0, 0, -1));
        state("post: an 81st message", Chats::full, chat -> chat.post(0, 0, -1));
        state("post: to one of another channel", Chats::ordinary, chat -> chat.post(0, 5, 0));
        state("post: to an archived one", RefusedTest::archived, chat -> chat.post(0, 0, 0));
    }

    private static void edit() {
        index("edit: user -1", chat -> chat.edit(-1, 0));
        index("edit: user behind the last", chat -> chat.edit(4, 0));
        index("edit: message -1", chat -> chat.edit(0, -1));
        index("edit: message behind the last", chat -> chat.edit(0, 3));
        state("edit: who is gone", without(0), chat -> chat.edit(0, 0));
        state("edit: another one's", Chats::ordinary, chat -> chat.edit(2, 0));
        state("edit: an archived one", RefusedTest::archived, chat -> chat.edit(0, 0));
    }

    private static void mark() {
        index("mark: user -1", chat -> chat.mark(-1, 0, 0));
        index("mark: user behind the last", chat -> chat.mark(4, 0, 0));
        index("mark: message -1", chat -> chat.mark(1, -1, 0));
        index("mark: message behind the last", chat -> chat.mark(1, 3, 0));
        argument("mark: kind below -1", chat -> chat.mark(1, 0, -2));
        argument("mark: kind above NO", chat -> chat.mark(1, 0, 2));
        argument("mark: the least kind", chat -> chat.mark(1, 0, Integer.MIN_VALUE));
        argument("mark: the greatest kind", chat -> chat.mark(1, 0, Integer.MAX_VALUE));
        state("mark: YES of who is gone", without(0), chat -> chat.mark(0, 0, 0));
        state("mark: NO of who is gone", without(1), chat -> chat.mark(1, 0, 1));
        state("mark: an archived one, YES", RefusedTest::archived, chat -> chat.mark(0, 0, 0));
        state("mark: an archived one, NO", RefusedTest::archived, chat -> chat.mark(1, 0, 1));
    }

    private static void markToTakeOff() {
        state("mark off: there never was one", Chats::ordinary, chat -> chat.mark(0, 0, -1));
        state("mark off: of another message", Chats::ordinary, chat -> chat.mark(1, 1, -1));
        state("mark off: of the version before", () -> {
            MarkChat chat = Chats.ordinary();
            chat.edit(0, 0);
            return chat;
        }, chat -> chat.mark(1, 0, -1));
        state("mark off: taken off already", () -> {
            MarkChat chat = Chats.ordinary();
            chat.mark(1, 0, -1);
            return chat;
        }, chat -> chat.mark(1, 0, -1));
        state("mark off: who is gone", without(1), chat -> chat.mark(1, 0, -1));
        state("mark off: an archived one", RefusedTest::archived, chat -> chat.mark(1, 0, -1));
    }

    private static void spend() {
        index("spend: user -1", chat -> chat.spend(-1, 0, 1));
        index("spend: user behind the last", chat -> chat.spend(4, 0, 1));
        index("spend: message -1", chat -> chat.spend(0, -1, 1));
        index("spend: message behind the last", chat -> chat.spend(0, 3, 1));
        argument("spend: amount 0", chat -> chat.spend(0, 0, 0));
        argument("spend: amount below 0", chat -> chat.spend(0, 0, -1));
        argument("spend: amount above 1000000", chat -> chat.spend(0, 0, 1000001));
        argument("spend: the least amount", chat -> chat.spend(0, 0, Integer.MIN_VALUE));
        argument("spend: the greatest amount", chat -> chat.spend(0, 0, Integer.MAX_VALUE));
        state("spend: who is gone", without(0), chat -> chat.spend(0, 0, 1));
        state("spend: a 61st one", Chats::full, chat -> chat.spend(0, 0, 1));
        state("spend: an archived message", RefusedTest::archived, chat -> chat.spend(0, 0, 1));
        state("spend: a cent more than is left", Chats::ordinary, chat -> chat.spend(0, 0, 3500));
    }

    private static void spendNotApproved() {
        state("spend: without a YES", Chats::ordinary, chat -> chat.spend(0, 2, 1));
        state("spend: against a NO", Chats::ordinary, chat -> chat.spend(0, 1, 1));
        state("spend: above 1000 by a LEAD alone", without(2), chat -> chat.spend(0, 0, 1001));
        state("spend: the YES are of the version before", () -> {
            MarkChat chat = Chats.ordinary();
            chat.edit(0, 0);
            return chat;
        }, chat -> chat.spend(0, 0, 1));
        state("spend: by the author's own YES", () -> {
            MarkChat chat = Chats.ordinary();
            chat.budget(5, 1000);
            chat.mark(1, 2, 0);
            return chat;
        }, chat -> chat.spend(0, 2, 1));
    }

    private static void task() {
        index("task: user -1", chat -> chat.task(-1, 0, 0, 1));
        index("task: user behind the last", chat -> chat.task(4, 0, 0, 1));
        index("task: message -1", chat -> chat.task(0, -1, 0, 1));
        index("task: message behind the last", chat -> chat.task(0, 3, 0, 1));
        index("task: for user -1", chat -> chat.task(0, 0, -1, 1));
        index("task: for the user behind the last", chat -> chat.task(0, 0, 4, 1));
        argument("task: hours below 0", chat -> chat.task(0, 0, 0, -1));
        argument("task: hours above 10000", chat -> chat.task(0, 0, 0, 10001));
        argument("task: the least hours", chat -> chat.task(0, 0, 0, Integer.MIN_VALUE));
        argument("task: the most hours", chat -> chat.task(0, 0, 0, Integer.MAX_VALUE));
        state("task: who is gone", without(0), chat -> chat.task(0, 0, 1, 1));
        state("task: a 61st one", Chats::full, chat -> chat.task(0, 0, 0, 1));
        state("task: of an archived message", RefusedTest::archived, chat -> chat.task(0, 0, 1, 1));
    }

    private static void done() {
        index("done: user -1", chat -> chat.done(-1, 0));
        index("done: user behind the last", chat -> chat.done(4, 0));
        index("done: task -1", chat -> chat.done(0, -1));
        index("done: task behind the last", chat -> chat.done(0, 3));
        state("done: who is gone", without(0), chat -> chat.done(0, 0));
        state("done: another one's", Chats::ordinary, chat -> chat.done(1, 0));
        state("done: of who made it", Chats::ordinary, chat -> chat.done(3, 2));
        state("done: a DONE one", Chats::ordinary, chat -> chat.done(1, 1));
        state("done: a DROPPED one", () -> {
            MarkChat chat = Chats.ordinary();
            chat.edit(0, 0);
            return chat;
        }, chat -> chat.done(0, 0));
    }

    private static void holdAndArchive() {
        index("hold: channel -1", chat -> chat.hold(-1));
        index("hold: channel 6", chat -> chat.hold(6));
        index("archive: channel -1", chat -> chat.archive(-1));
        index("archive: channel 6", chat -> chat.archive(6));
        state("archive: a channel on hold", () -> {
            MarkChat chat = Chats.ordinary();
            chat.pass(1000);
            chat.hold(5);
            return chat;
        }, chat -> chat.archive(5));
    }

    private static void pass() {
        argument("pass: 0 hours", chat -> chat.pass(0));
        argument("pass: hours below 0", chat -> chat.pass(-1));
        argument("pass: hours above 1000", chat -> chat.pass(1001));
        argument("pass: the least hours", chat -> chat.pass(Integer.MIN_VALUE));
        argument("pass: the most hours", chat -> chat.pass(Integer.MAX_VALUE));
    }

    private static void messageOf() {
        index("messageOf: message -1", chat -> chat.messageOf(-1, 0));
        index("messageOf: message behind the last", chat -> chat.messageOf(3, 0));
        argument("messageOf: what -1", chat -> chat.messageOf(0, -1));
        argument("messageOf: what 7", chat -> chat.messageOf(0, 7));
    }

    private static void isApproved() {
        index("isApproved: message -1", chat -> chat.isApproved(-1, 1, false));
        index("isApproved anew: message -1", chat -> chat.isApproved(-1, 1, true));
        index("isApproved: message behind the last", chat -> chat.isApproved(3, 1, false));
        index("isApproved anew: message behind the last", chat -> chat.isApproved(3, 1, true));
        argument("isApproved: amount 0", chat -> chat.isApproved(0, 0, false));
        argument("isApproved anew: amount 0", chat -> chat.isApproved(0, 0, true));
        argument("isApproved: amount above 1000000", chat -> chat.isApproved(0, 1000001, false));
        argument("isApproved anew: amount above 1000000", chat -> chat.isApproved(0, 1000001, true));
    }

    private static void spendOf() {
        index("spendOf: spend -1", chat -> chat.spendOf(-1, 0));
        index("spendOf: spend behind the last", chat -> chat.spendOf(2, 0));
        argument("spendOf: what -1", chat -> chat.spendOf(0, -1));
        argument("spendOf: what 4", chat -> chat.spendOf(0, 4));
    }

    private static void left() {
        index("left: channel -1", chat -> chat.left(-1));
        index("left: channel 6", chat -> chat.left(6));
    }

    private static void next() {
        index("next: user -1", chat -> chat.next(-1, 0));
        index("next: user behind the last", chat -> chat.next(4, 0));
        index("next: rank -1", chat -> chat.next(0, -1));
        index("next: the least rank", chat -> chat.next(0, Integer.MIN_VALUE));
    }

    private static void taskOf() {
        index("taskOf: task -1", chat -> chat.taskOf(-1));
        index("taskOf: task behind the last", chat -> chat.taskOf(3));
    }

    private static void label() {
        index("label: task -1", chat -> chat.label(-1, 0));
        index("label: task behind the last", chat -> chat.label(3, 0));
        index("label: place -1", chat -> chat.label(0, -1));
        index("label: the least place", chat -> chat.label(0, Integer.MIN_VALUE));
    }
}
