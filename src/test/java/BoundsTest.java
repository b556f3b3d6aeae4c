/**
 * The bounds of every argument and answer, promise by promise: what is just inside is answered, and does what it
 * should; what is just outside is refused with the exception that the promise names. RefusedTest looks at what a
 * refused call leaves, and FirstExceptionTest at which exception goes first.
 */
public final class BoundsTest {
    private static final int LEAST = Integer.MIN_VALUE;
    private static final int MOST = Integer.MAX_VALUE;

    private BoundsTest() {
    }

    public static void main(String[] args) {
        promise1EmptyChat();
        promise2User();
        promise3Role();
        promise4Ends();
        promise5Budget();
        promise5AboveTheLimit();
        promise6Post();
        promise7Edit();
        promise8Mark();
        promise8HowManyCount();
        promise9Spend();
        promise10Task();
        promise11Done();
        promise12Hold();
        promise13Archive();
        promise14Pass();
        promise15MessageOf();
        promise16IsApproved();
        promise17SpendOf();
        promise18Left();
        promise19Next();
        promise20TaskOf();
        promise21Label();
        promise21LabelLengths();
        Check.end();
    }

    private interface Numbered {
        Object of(int number);
    }

    private static void eachRefused(String what, Class<? extends RuntimeException> want, int[] numbers, Numbered call) {
        for (int i = 0; i < numbers.length; i++) {
            int number = numbers[i];
            Check.refused(what + " " + number, want, () -> call.of(number));
        }
    }

    private static int[] outside(int low, int high) {
        return new int[] {low - 1, high + 1, LEAST, MOST};
    }

    /** "Opens the chat at the hour 0, without users": nothing else exists, and the first numbers are 0. */
    private static void promise1EmptyChat() {
        MarkChat chat = new MarkChat();
        Check.refused("new: role", Check.INDEX, () -> chat.role(0, 0));
        Check.refused("new: ends", Check.INDEX, () -> chat.ends(0, 0));
        Check.refused("new: post", Check.INDEX, () -> chat.post(0, 0, -1));
        Check.refused("new: edit", Check.INDEX, () -> chat.edit(0, 0));
        Check.refused("new: mark", Check.INDEX, () -> chat.mark(0, 0, 0));
        Check.refused("new: spend", Check.INDEX, () -> chat.spend(0, 0, 1));
        Check.refused("new: task", Check.INDEX, () -> chat.task(0, 0, 0, 0));
        Check.refused("new: done", Check.INDEX, () -> chat.done(0, 0));
        Check.refused("new: messageOf", Check.INDEX, () -> chat.messageOf(0, 0));
        Check.refused("new: isApproved", Check.INDEX, () -> chat.isApproved(0, 1, false));
        Check.refused("new: isApproved anew", Check.INDEX, () -> chat.isApproved(0, 1, true));
        Check.refused("new: spendOf", Check.INDEX, () -> chat.spendOf(0, 0));
        Check.refused("new: next", Check.INDEX, () -> chat.next(0, 0));
        Check.refused("new: taskOf", Check.INDEX, () -> chat.taskOf(0));
        Check.refused("new: label", Check.INDEX, () -> chat.label(0, 0));
        Check.due("new: archive", 0, () -> chat.archive(0));
        Check.due("new: budget", 0, () -> chat.budget(0, 0));
        Check.due("new: user", 0, () -> chat.user(2));
        Check.refused("no message yet: edit", Check.INDEX, () -> chat.edit(0, 0));
        Check.refused("no message yet: a reply", Check.INDEX, () -> chat.post(0, 0, 0));
        Check.due("new: the first message", 0, () -> chat.post(0, 0, -1));
        Check.refused("no task yet: done", Check.INDEX, () -> chat.done(0, 0));
        Check.due("new: the first task", 0, () -> chat.task(0, 0, 0, 0));
        Check.refused("a second user is not there", Check.INDEX, () -> chat.role(1, 0));
    }

    /** "role: GUEST to CHIEF" */
    private static void promise2User() {
        MarkChat chat = new MarkChat();
        eachRefused("user of the role", Check.ARGUMENT, outside(0, 3), role -> chat.user(role));
        Check.due("a GUEST", 0, () -> chat.user(0));
        Check.due("a CHIEF", 1, () -> chat.user(3));
        Check.due("the GUEST's role", 0, () -> chat.role(0, 0));
        Check.due("the CHIEF's role", 3, () -> chat.role(1, 3));
        Check.due("the user is never gone", 1000, () -> chat.pass(1000));
        Check.due("not gone", 0, () -> chat.post(0, 0, -1));
    }

    /** "role: GUEST to CHIEF", "Returns what it was." */
    private static void promise3Role() {
        MarkChat chat = Chats.withUsers(1, 2);
        eachRefused("role of the user", Check.INDEX, outside(0, 1), user -> chat.role(user, 0));
        eachRefused("to the role", Check.ARGUMENT, outside(0, 3), role -> chat.role(1, role));
        Check.due("the last user, to GUEST", 2, () -> chat.role(1, 0));
        Check.due("the last user, to CHIEF", 0, () -> chat.role(1, 3));
        Check.due("the last user, to CHIEF again", 3, () -> chat.role(1, 3));
        Check.due("the first user", 1, () -> chat.role(0, 3));
    }

    /** "hours: 0 to 10000: in so many hours from now, 0 for at once; -1 for never" */
    private static void promise4Ends() {
        MarkChat chat = Chats.withUsers(1, 1);
        chat.post(0, 0, -1);
        chat.pass(6);
        eachRefused("ends of the user", Check.INDEX, outside(0, 1), user -> chat.ends(user, 0));
        eachRefused("ends in the hours", Check.ARGUMENT, outside(-1, 10000), hours -> chat.ends(0, hours));
        Check.due("refused ends are not told", 1, () -> chat.edit(0, 0));
        Check.due("at once", 6, () -> chat.ends(0, 0));
        Check.refused("gone at once", Check.STATE, () -> chat.edit(0, 0));
        Check.due("in an hour", 7, () -> chat.ends(0, 1));
        Check.due("not gone for an hour", 2, () -> chat.edit(0, 0));
        Check.due("in 10000 hours", 10006, () -> chat.ends(0, 10000));
        for (int i = 0; i < 9; i++) {
            chat.pass(1000);
        }
        chat.pass(999);
        Check.due("not gone for 9999 hours", 3, () -> chat.edit(0, 0));
        Check.due("10000 hours", 10006, () -> chat.pass(1));
        Check.refused("gone in 10000 hours", Check.STATE, () -> chat.edit(0, 0));
        Check.due("never", -1, () -> chat.ends(0, -1));
        Check.due("not gone", 4, () -> chat.edit(0, 0));
        Check.due("the last user", 10006, () -> chat.ends(1, 0));
    }

    /** "cents: 0 to 1000000", "Returns the budget then." */
    private static void promise5Budget() {
        MarkChat chat = new MarkChat();
        eachRefused("budget of the channel", Check.INDEX, outside(0, 5), channel -> chat.budget(channel, 1));
        eachRefused("budget of the cents", Check.ARGUMENT, outside(0, 1000000), cents -> chat.budget(0, cents));
        Check.due("refused cents are not added", 0, () -> chat.left(0));
        Check.due("0 cents", 0, () -> chat.budget(0, 0));
        Check.due("1 cent", 1, () -> chat.budget(0, 1));
        Check.due("1000000 cents", 1000001, () -> chat.budget(0, 1000000));
        Check.due("0 cents more", 1000001, () -> chat.budget(0, 0));
    }

    /** "if it would be above 1000000000": 1000 calls of the most, beyond the 512 of which answers are promised. */
    private static void promise5AboveTheLimit() {
        MarkChat chat = new MarkChat();
        for (int i = 0; i < 999; i++) {
            chat.budget(0, 1000000);
        }
        chat.budget(0, 999999);
        Check.refused("a cent above 1000000000", Check.STATE, () -> chat.budget(0, 2));
        Check.due("refused, it is as before", 999999999, () -> chat.left(0));
        Check.due("1000000000", 1000000000, () -> chat.budget(0, 1));
        Check.due("0 cents more", 1000000000, () -> chat.budget(0, 0));
        Check.refused("1000000001", Check.STATE, () -> chat.budget(0, 1));
        Check.refused("1001000000", Check.STATE, () -> chat.budget(0, 1000000));
        Check.due("the other channels have their own", 1, () -> chat.budget(1, 1));
    }

    /** "parent: the message to which it is a reply, or -1" */
    private static void promise6Post() {
        MarkChat chat = Chats.withUsers(0, 1);
        eachRefused("post of the user", Check.INDEX, outside(0, 1), user -> chat.post(user, 0, -1));
        eachRefused("post in the channel", Check.INDEX, outside(0, 5), channel -> chat.post(0, channel, -1));
        eachRefused("a reply, without messages", Check.INDEX, new int[] {-2, 0, LEAST, MOST},
                parent -> chat.post(0, 0, parent));
        Check.due("no reply", 0, () -> chat.post(1, 5, -1));
        Check.due("a reply to the first one", 1, () -> chat.post(0, 5, 0));
        Check.due("a reply to the last one", 2, () -> chat.post(0, 5, 1));
        eachRefused("a reply to", Check.INDEX, new int[] {-2, 3, LEAST, MOST}, parent -> chat.post(0, 5, parent));
        Check.refused("a reply in another channel", Check.STATE, () -> chat.post(0, 4, 0));
        Check.due("a reply to none", -1, () -> chat.messageOf(0, 2));
        Check.due("a reply to the message 0", 0, () -> chat.messageOf(1, 2));
        Check.due("a reply to the message 1", 1, () -> chat.messageOf(2, 2));
    }

    /** "Throws IndexOutOfBoundsException if there is no such user or message", "if the user is not its author" */
    private static void promise7Edit() {
        MarkChat chat = Chats.withUsers(0, 1);
        chat.post(0, 0, -1);
        chat.post(1, 0, -1);
        eachRefused("edit of the user", Check.INDEX, outside(0, 1), user -> chat.edit(user, 0));
        eachRefused("edit of the message", Check.INDEX, outside(0, 1), message -> chat.edit(0, message));
        Check.refused("the last message, by another one", Check.STATE, () -> chat.edit(0, 1));
        Check.refused("the first message, by another one", Check.STATE, () -> chat.edit(1, 0));
        Check.due("the first message", 1, () -> chat.edit(0, 0));
        Check.due("the last message", 1, () -> chat.edit(1, 1));
    }

    /** "kind: YES or NO, or -1 to take the mark off" */
    private static void promise8Mark() {
        MarkChat chat = Chats.withUsers(1, 2);
        chat.post(0, 0, -1);
        chat.post(0, 0, -1);
        eachRefused("mark of the user", Check.INDEX, outside(0, 1), user -> chat.mark(user, 0, 0));
        eachRefused("mark of the message", Check.INDEX, outside(0, 1), message -> chat.mark(0, message, 0));
        eachRefused("mark of the kind", Check.ARGUMENT, outside(-1, 1), kind -> chat.mark(0, 0, kind));
        Check.due("refused marks are not there", 0, () -> chat.messageOf(0, 6));
        Check.refused("-1 without a mark", Check.STATE, () -> chat.mark(1, 1, -1));
        Check.due("YES", 1, () -> chat.mark(1, 1, 0));
        Check.due("NO", 2, () -> chat.mark(0, 1, 1));
        Check.due("-1", 1, () -> chat.mark(0, 1, -1));
        Check.refused("-1 again", Check.STATE, () -> chat.mark(0, 1, -1));
        Check.due("the last mark", 0, () -> chat.mark(1, 1, -1));
    }

    /** "Returns how many marks of it count then": from none to those of all 12. */
    private static void promise8HowManyCount() {
        MarkChat chat = new MarkChat();
        for (int i = 0; i < 12; i++) {
            chat.user(i == 0 ? 0 : 1);
        }
        chat.post(11, 0, -1);
        Check.due("a GUEST's is none", 0, () -> chat.mark(0, 0, 0));
        for (int i = 1; i < 12; i++) {
            int user = i;
            Check.due("the mark of " + user, user, () -> chat.mark(user, 0, user % 2));
        }
        chat.role(0, 1);
        Check.due("all 12", 12, () -> chat.mark(0, 0, 1));
        chat.ends(5, 0);
        Check.due("all but one who is gone", 11, () -> chat.mark(0, 0, 0));
    }

    /** "amount: 1 to 1000000" */
    private static void promise9Spend() {
        MarkChat chat = Chats.withUsers(0, 3, 3);
        chat.budget(0, 1000000);
        chat.budget(0, 1);
        chat.post(0, 0, -1);
        chat.mark(1, 0, 0);
        chat.mark(2, 0, 0);
        eachRefused("spend of the user", Check.INDEX, outside(0, 2), user -> chat.spend(user, 0, 1));
        eachRefused("spend of the message", Check.INDEX, outside(0, 0), message -> chat.spend(0, message, 1));
        eachRefused("spend of the amount", Check.ARGUMENT, outside(1, 1000000), amount -> chat.spend(0, 0, amount));
        Check.due("refused amounts are left", 1000001, () -> chat.left(0));
        Check.due("1000000", 0, () -> chat.spend(2, 0, 1000000));
        Check.due("1", 1, () -> chat.spend(0, 0, 1));
        Check.due("nothing is left", 0, () -> chat.left(0));
    }

    /** "hours: 0 to 10000: until when, from now on" */
    private static void promise10Task() {
        MarkChat chat = Chats.withUsers(0, 1);
        chat.post(0, 0, -1);
        chat.pass(7);
        eachRefused("task of the user", Check.INDEX, outside(0, 1), user -> chat.task(user, 0, 0, 1));
        eachRefused("task of the message", Check.INDEX, outside(0, 0), message -> chat.task(0, message, 0, 1));
        eachRefused("task for the user", Check.INDEX, outside(0, 1), user -> chat.task(0, 0, user, 1));
        eachRefused("task in the hours", Check.ARGUMENT, outside(0, 10000), hours -> chat.task(0, 0, 0, hours));
        chat.ends(1, 0);
        Check.due("0 hours, for who is gone", 0, () -> chat.task(0, 0, 1, 0));
        Check.due("10000 hours", 1, () -> chat.task(0, 0, 0, 10000));
        Check.due("until now", "0.0>1@7", () -> Chats.labelOf(chat, 0));
        Check.due("until the last hour", "0.0>0@10007", () -> Chats.labelOf(chat, 1));
        Check.due("10000 hours are left", 10000, () -> chat.done(0, 1));
    }

    /** "Returns how many hours there are left, below 0 if it is late." */
    private static void promise11Done() {
        MarkChat chat = Chats.withUsers(1, 1);
        chat.post(0, 0, -1);
        for (int i = 0; i < 4; i++) {
            chat.task(0, 0, 1, 2);
        }
        eachRefused("done of the user", Check.INDEX, outside(0, 1), user -> chat.done(user, 0));
        eachRefused("done of the task", Check.INDEX, outside(0, 3), task -> chat.done(1, task));
        Check.refused("not for that user", Check.STATE, () -> chat.done(0, 0));
        chat.pass(1);
        Check.due("an hour early", 1, () -> chat.done(1, 0));
        Check.refused("DONE already", Check.STATE, () -> chat.done(1, 0));
        chat.pass(1);
        Check.due("in time", 0, () -> chat.done(1, 1));
        chat.pass(1);
        Check.due("an hour late", -1, () -> chat.done(1, 2));
        chat.edit(0, 0);
        Check.refused("the last one is DROPPED", Check.STATE, () -> chat.done(1, 3));
    }

    /** "channel: 0 to 5", "Returns true if it is on hold then." */
    private static void promise12Hold() {
        MarkChat chat = new MarkChat();
        eachRefused("hold of the channel", Check.INDEX, outside(0, 5), channel -> chat.hold(channel));
        for (int i = 0; i < 6; i += 5) {
            int channel = i;
            Check.due("on hold, " + channel, true, () -> chat.hold(channel));
            Check.due("not any more, " + channel, false, () -> chat.hold(channel));
            Check.due("on hold again, " + channel, true, () -> chat.hold(channel));
        }
    }

    /** "Returns how many messages are archived by that": from none to all 80. */
    private static void promise13Archive() {
        MarkChat chat = Chats.withUsers(1);
        eachRefused("archive of the channel", Check.INDEX, outside(0, 5), channel -> chat.archive(channel));
        Check.due("an empty channel", 0, () -> chat.archive(0));
        for (int i = 0; i < 80; i++) {
            chat.post(0, 5, -1);
        }
        chat.pass(719);
        Check.due("none of 80", 0, () -> chat.archive(5));
        chat.pass(1);
        Check.due("another channel", 0, () -> chat.archive(0));
        Check.due("all 80", 80, () -> chat.archive(5));
        Check.due("none again", 0, () -> chat.archive(5));
        Check.due("the first one", 1, () -> chat.messageOf(0, 5));
        Check.due("the last one", 1, () -> chat.messageOf(79, 5));
        chat.hold(5);
        Check.refused("on hold, with none to archive", Check.STATE, () -> chat.archive(5));
    }

    /** "hours: 1 to 1000", "Returns the hour then." */
    private static void promise14Pass() {
        MarkChat chat = new MarkChat();
        eachRefused("pass of the hours", Check.ARGUMENT, outside(1, 1000), hours -> chat.pass(hours));
        Check.due("the first hour", 1, () -> chat.pass(1));
        Check.due("1000 hours", 1001, () -> chat.pass(1000));
        eachRefused("pass later, of the hours", Check.ARGUMENT, outside(1, 1000), hours -> chat.pass(hours));
        Check.due("refused hours do not pass", 1002, () -> chat.pass(1));
    }

    /** "what: 0 the author, ... 6 how many marks of it count" */
    private static void promise15MessageOf() {
        MarkChat chat = Chats.full();
        eachRefused("messageOf of the message", Check.INDEX, outside(0, 79), message -> chat.messageOf(message, 0));
        eachRefused("messageOf of what", Check.ARGUMENT, outside(0, 6), what -> chat.messageOf(79, what));
        int[] first = {0, 0, -1, 0, 0, 0, 2};
        int[] last = {7, 1, -1, 0, 0, 0, 0};
        for (int i = 0; i < 7; i++) {
            int what = i;
            Check.due("messageOf the first, " + what, first[what], () -> chat.messageOf(0, what));
            Check.due("messageOf the last, " + what, last[what], () -> chat.messageOf(79, what));
        }
    }

    /** "amount: 1 to 1000000" */
    private static void promise16IsApproved() {
        MarkChat chat = Chats.full();
        chat.mark(1, 79, 0);
        for (int i = 0; i < 2; i++) {
            boolean isAnew = i == 1;
            eachRefused("isApproved of the message", Check.INDEX, outside(0, 79),
                    message -> chat.isApproved(message, 1, isAnew));
            eachRefused("isApproved of the amount", Check.ARGUMENT, outside(1, 1000000),
                    amount -> chat.isApproved(0, amount, isAnew));
        }
        Chats.approved("the first one, 1", true, chat, 0, 1);
        Chats.approved("the first one, 1000000", true, chat, 0, 1000000);
        Chats.approved("the last one, 1000", true, chat, 79, 1000);
        Chats.approved("the last one, 1001", false, chat, 79, 1001);
        Chats.approved("the last one, 1000000", false, chat, 79, 1000000);
        Chats.approved("the one before it, 1", false, chat, 78, 1);
    }

    /** "what: 0 STANDS or WENT_BACK, 1 the message, 2 the version of it, 3 the amount" */
    private static void promise17SpendOf() {
        MarkChat chat = Chats.full();
        eachRefused("spendOf of the spend", Check.INDEX, outside(0, 59), spend -> chat.spendOf(spend, 0));
        eachRefused("spendOf of what", Check.ARGUMENT, outside(0, 3), what -> chat.spendOf(59, what));
        int[] want = {0, 0, 0, 10};
        for (int i = 0; i < 4; i++) {
            int what = i;
            Check.due("spendOf the first, " + what, want[what], () -> chat.spendOf(0, what));
            Check.due("spendOf the last, " + what, want[what], () -> chat.spendOf(59, what));
        }
        chat.edit(0, 0);
        Check.due("the first one WENT_BACK", 1, () -> chat.spendOf(0, 0));
        Check.due("the last one WENT_BACK", 1, () -> chat.spendOf(59, 0));
        Check.due("of the version then", 0, () -> chat.spendOf(59, 2));
    }

    /** "channel: 0 to 5", "Returns the cents that are left." */
    private static void promise18Left() {
        MarkChat chat = Chats.full();
        eachRefused("left of the channel", Check.INDEX, outside(0, 5), channel -> chat.left(channel));
        Check.due("left of the first", 400, () -> chat.left(0));
        Check.due("left of the last", 0, () -> chat.left(5));
        chat.budget(5, 9);
        Check.due("left of the last, then", 9, () -> chat.left(5));
    }

    /** "rank: 0 for the next one", "-1 if there are not so many", "or rank is below 0" */
    private static void promise19Next() {
        MarkChat chat = Chats.withUsers(1, 1);
        chat.post(0, 0, -1);
        eachRefused("next of the user", Check.INDEX, outside(0, 1), user -> chat.next(user, 0));
        eachRefused("next of the rank", Check.INDEX, new int[] {-1, LEAST}, rank -> chat.next(1, rank));
        Check.due("without tasks", -1, () -> chat.next(1, 0));
        Check.due("without tasks, the greatest rank", -1, () -> chat.next(1, MOST));
        for (int i = 0; i < 60; i++) {
            chat.task(0, 0, 1, 60 - i);
        }
        eachRefused("next of 60, of the rank", Check.INDEX, new int[] {-1, LEAST}, rank -> chat.next(1, rank));
        Check.due("rank 0", 59, () -> chat.next(1, 0));
        Check.due("rank 59", 0, () -> chat.next(1, 59));
        Check.due("rank 60", -1, () -> chat.next(1, 60));
        Check.due("the greatest rank", -1, () -> chat.next(1, MOST));
        Check.due("who has none", -1, () -> chat.next(0, 0));
        chat.done(1, 59);
        Check.due("without the first one, rank 0", 58, () -> chat.next(1, 0));
        Check.due("without the first one, rank 58", 0, () -> chat.next(1, 58));
        Check.due("without the first one, rank 59", -1, () -> chat.next(1, 59));
    }

    /** "Returns OPEN to DROPPED." */
    private static void promise20TaskOf() {
        MarkChat chat = Chats.full();
        eachRefused("taskOf", Check.INDEX, outside(0, 59), task -> chat.taskOf(task));
        Check.due("the first is OPEN", 0, () -> chat.taskOf(0));
        Check.due("the last is OPEN", 0, () -> chat.taskOf(59));
        chat.done(1, 0);
        chat.edit(11, 59);
        Check.due("the first is DONE", 1, () -> chat.taskOf(0));
        Check.due("the last is DROPPED", 2, () -> chat.taskOf(59));
        Check.due("the one before it", 0, () -> chat.taskOf(58));
    }

    /** "place: 0 for the first one", "the char 0 behind the last one", "or place is below 0" */
    private static void promise21Label() {
        MarkChat chat = Chats.full();
        eachRefused("label of the task", Check.INDEX, outside(0, 59), task -> chat.label(task, 0));
        eachRefused("label of the place", Check.INDEX, new int[] {-1, LEAST}, place -> chat.label(59, place));
        Check.due("the first label", "0.0>1@0", () -> Chats.labelOf(chat, 0));
        Check.due("the last label", "59.0>0@59", () -> Chats.labelOf(chat, 59));
        Check.due("the first sign", '5', () -> chat.label(59, 0));
        Check.due("the last sign", '9', () -> chat.label(59, 8));
        Check.due("behind the last sign", (char) 0, () -> chat.label(59, 9));
        Check.due("the greatest place", (char) 0, () -> chat.label(59, MOST));
        Check.due("behind the last sign of the first", (char) 0, () -> chat.label(0, 7));
    }

    /** "the number of its message.the version as it was born>the user@the hour until when": a short one, a long one. */
    private static void promise21LabelLengths() {
        MarkChat chat = Chats.withUsers(1, 1, 1, 1, 1, 1, 1, 1, 1, 1, 1, 1);
        for (int i = 0; i < 80; i++) {
            chat.post(0, 0, -1);
        }
        chat.task(0, 0, 0, 0);
        for (int i = 0; i < 100; i++) {
            chat.edit(0, 79);
        }
        for (int i = 0; i < 200; i++) {
            chat.pass(1000);
        }
        chat.task(0, 79, 11, 10000);
        chat.edit(0, 79);
        Check.due("a short one", "0.0>0@0", () -> Chats.labelOf(chat, 0));
        Check.due("a long one", "79.100>11@210000", () -> Chats.labelOf(chat, 1));
        Check.due("behind a long one", (char) 0, () -> chat.label(1, 16));
    }
}
