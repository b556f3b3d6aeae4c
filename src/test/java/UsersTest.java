/** Promises 1 to 5, 12, 14 and 18: a new object, users, their roles and ends, budgets, holds and hours. */
public final class UsersTest {
    private UsersTest() {
    }

    public static void main(String[] args) {
        promise1NewObject();
        promise2User();
        promise3Role();
        promise4Ends();
        promise4Gone();
        promise5And18Budget();
        promise12Hold();
        promise14Pass();
        Check.end();
    }

    private static void promise1NewObject() {
        MarkChat chat = new MarkChat();
        Check.refused("new: role(0)", Check.INDEX, () -> chat.role(0, 0));
        Check.refused("new: messageOf(0)", Check.INDEX, () -> chat.messageOf(0, 0));
        Check.refused("new: spendOf(0)", Check.INDEX, () -> chat.spendOf(0, 0));
        Check.refused("new: taskOf(0)", Check.INDEX, () -> chat.taskOf(0));
        for (int channel = 0; channel < 6; channel++) {
            int asked = channel;
            Check.due("new: left", 0, () -> chat.left(asked));
            Check.due("new: hold", true, () -> chat.hold(asked));
        }
        Check.due("new: pass from the hour 0", 1, () -> chat.pass(1));
        MarkChat other = new MarkChat();
        Check.due("a first user", 0, () -> chat.user(0));
        Check.refused("objects share nothing", Check.INDEX, () -> other.role(0, 0));
    }

    private static void promise2User() {
        MarkChat chat = new MarkChat();
        Check.refused("user(-1)", Check.ARGUMENT, () -> chat.user(-1));
        Check.refused("user(4)", Check.ARGUMENT, () -> chat.user(4));
        for (int i = 0; i < 12; i++) {
            int number = i;
            Check.due("user", number, () -> chat.user(number % 4));
        }
        Check.refused("a 13th user", Check.STATE, () -> chat.user(0));
        Check.refused("a 13th user of no role", Check.ARGUMENT, () -> chat.user(4));
        for (int i = 0; i < 12; i++) {
            int number = i;
            Check.due("the role told first", number % 4, () -> chat.role(number, 0));
        }
        Check.refused("role(12)", Check.INDEX, () -> chat.role(12, 0));
    }

    private static void promise3Role() {
        MarkChat chat = new MarkChat();
        chat.user(2);
        Check.due("role to CHIEF", 2, () -> chat.role(0, 3));
        Check.due("role to GUEST", 3, () -> chat.role(0, 0));
        Check.due("role again", 0, () -> chat.role(0, 0));
        Check.refused("role(0, 4)", Check.ARGUMENT, () -> chat.role(0, 4));
        Check.refused("role(0, -1)", Check.ARGUMENT, () -> chat.role(0, -1));
        Check.refused("role(1, 4)", Check.INDEX, () -> chat.role(1, 4));
        Check.refused("role(-1, 0)", Check.INDEX, () -> chat.role(-1, 0));
        Check.due("refused roles change nothing", 0, () -> chat.role(0, 1));
        chat.ends(0, 0);
        Check.due("the role of who is gone", 1, () -> chat.role(0, 2));
    }

    private static void promise4Ends() {
        MarkChat chat = new MarkChat();
        chat.user(1);
        Check.due("ends never", -1, () -> chat.ends(0, -1));
        Check.due("ends at once", 0, () -> chat.ends(0, 0));
        Check.due("ends latest", 10000, () -> chat.ends(0, 10000));
        chat.pass(7);
        Check.due("ends at once, later", 7, () -> chat.ends(0, 0));
        Check.due("ends from now on", 12, () -> chat.ends(0, 5));
        Check.refused("ends(0, 10001)", Check.ARGUMENT, () -> chat.ends(0, 10001));
        Check.refused("ends(0, -2)", Check.ARGUMENT, () -> chat.ends(0, -2));
        Check.refused("ends(1, -2)", Check.INDEX, () -> chat.ends(1, -2));
        Check.refused("ends(-1, 0)", Check.INDEX, () -> chat.ends(-1, 0));
        chat.pass(4);
        Check.due("not gone an hour before", 0, () -> chat.post(0, 0, -1));
        chat.pass(1);
        Check.refused("gone from the hour on", Check.STATE, () -> chat.post(0, 0, -1));
        Check.due("another end is told", 13, () -> chat.ends(0, 1));
        Check.due("not gone any more", 1, () -> chat.post(0, 0, -1));
    }

    private static void promise4Gone() {
        MarkChat chat = new MarkChat();
        chat.user(3);
        chat.user(3);
        chat.budget(0, 100);
        chat.post(0, 0, -1);
        chat.mark(1, 0, 0);
        chat.task(0, 0, 0, 5);
        chat.ends(0, 0);
        Check.refused("gone: post", Check.STATE, () -> chat.post(0, 0, -1));
        Check.refused("gone: edit", Check.STATE, () -> chat.edit(0, 0));
        Check.refused("gone: mark", Check.STATE, () -> chat.mark(0, 0, 0));
        Check.refused("gone: spend", Check.STATE, () -> chat.spend(0, 0, 1));
        Check.refused("gone: task", Check.STATE, () -> chat.task(0, 0, 1, 5));
        Check.refused("gone: done", Check.STATE, () -> chat.done(0, 0));
        Check.refused("gone, and kind out of range", Check.ARGUMENT, () -> chat.mark(0, 0, 2));
        Check.refused("gone, and no such message", Check.INDEX, () -> chat.edit(0, 1));
        Check.due("gone: next may be asked", 0, () -> chat.next(0, 0));
        Check.due("a task for who is gone", 1, () -> chat.task(1, 0, 0, 4));
        chat.ends(0, -1);
        Check.due("back: done", 5, () -> chat.done(0, 0));
    }

    private static void promise5And18Budget() {
        MarkChat chat = new MarkChat();
        Check.due("budget of nothing", 0, () -> chat.budget(5, 0));
        Check.due("budget of the most", 1000000, () -> chat.budget(5, 1000000));
        Check.due("budget adds", 1000001, () -> chat.budget(5, 1));
        Check.due("left", 1000001, () -> chat.left(5));
        Check.due("left of another one", 0, () -> chat.left(4));
        Check.refused("budget(5, -1)", Check.ARGUMENT, () -> chat.budget(5, -1));
        Check.refused("budget(5, 1000001)", Check.ARGUMENT, () -> chat.budget(5, 1000001));
        Check.refused("budget(6, -1)", Check.INDEX, () -> chat.budget(6, -1));
        Check.refused("budget(-1, 0)", Check.INDEX, () -> chat.budget(-1, 0));
        Check.refused("left(6)", Check.INDEX, () -> chat.left(6));
        Check.refused("left(-1)", Check.INDEX, () -> chat.left(-1));
        Check.due("refused budgets change nothing", 1000001, () -> chat.left(5));
    }

    private static void promise12Hold() {
        MarkChat chat = new MarkChat();
        Check.due("hold", true, () -> chat.hold(0));
        Check.due("hold of another one", true, () -> chat.hold(5));
        Check.due("hold off", false, () -> chat.hold(0));
        Check.due("hold on again", true, () -> chat.hold(0));
        Check.refused("hold(6)", Check.INDEX, () -> chat.hold(6));
        Check.refused("hold(-1)", Check.INDEX, () -> chat.hold(-1));
    }

    private static void promise14Pass() {
        MarkChat chat = new MarkChat();
        Check.due("pass(1)", 1, () -> chat.pass(1));
        Check.due("pass(1000)", 1001, () -> chat.pass(1000));
        Check.refused("pass(0)", Check.ARGUMENT, () -> chat.pass(0));
        Check.refused("pass(-1)", Check.ARGUMENT, () -> chat.pass(-1));
        Check.refused("pass(1001)", Check.ARGUMENT, () -> chat.pass(1001));
        Check.due("refused hours do not pass", 1003, () -> chat.pass(2));
    }
}
