/** Promises 6 to 8, 15 and 16: posts, edits, marks, and approvals, found as they stand and found anew. */
public final class MessagesTest {
    private MessagesTest() {
    }

    public static void main(String[] args) {
        promise6Post();
        promise6MostMessages();
        promise7Edit();
        promise8Mark();
        promise8Counting();
        promise8BeyondAllCalls();
        promise15MessageOf();
        promise16IsApproved();
        promise16OneAndTwo();
        Check.end();
    }

    private static void promise6Post() {
        MarkChat chat = Chats.withUsers(0, 1);
        Check.due("post", 0, () -> chat.post(0, 0, -1));
        Check.due("reply", 1, () -> chat.post(1, 0, 0));
        Check.due("reply to a reply", 2, () -> chat.post(1, 0, 1));
        Check.due("post in the last channel", 3, () -> chat.post(1, 5, -1));
        Check.refused("reply of another channel", Check.STATE, () -> chat.post(0, 1, 0));
        Check.refused("post(2, 0, -1)", Check.INDEX, () -> chat.post(2, 0, -1));
        Check.refused("post(-1, 0, -1)", Check.INDEX, () -> chat.post(-1, 0, -1));
        Check.refused("post(0, 6, -1)", Check.INDEX, () -> chat.post(0, 6, -1));
        Check.refused("post(0, -1, -1)", Check.INDEX, () -> chat.post(0, -1, -1));
        Check.refused("post(0, 0, 4)", Check.INDEX, () -> chat.post(0, 0, 4));
        Check.refused("post(0, 0, -2)", Check.INDEX, () -> chat.post(0, 0, -2));
        chat.ends(0, 0);
        Check.refused("who is gone, to no message", Check.INDEX, () -> chat.post(0, 0, 4));
        Check.due("refused posts have no number", 4, () -> chat.post(1, 0, -1));
    }

    private static void promise6MostMessages() {
        MarkChat chat = Chats.withUsers(1);
        for (int i = 0; i < 80; i++) {
            int number = i;
            Check.due("post", number, () -> chat.post(0, number % 6, -1));
        }
        Check.refused("an 81st message", Check.STATE, () -> chat.post(0, 0, -1));
        Check.refused("an 81st message, to none", Check.INDEX, () -> chat.post(0, 0, 80));
        Check.refused("messageOf(80)", Check.INDEX, () -> chat.messageOf(80, 0));
        Check.due("the last one", 79 % 6, () -> chat.messageOf(79, 1));
    }

    private static void promise7Edit() {
        MarkChat chat = Chats.withUsers(0, 3);
        chat.post(0, 0, -1);
        chat.post(1, 0, -1);
        Check.due("edit", 1, () -> chat.edit(0, 0));
        Check.due("edit again", 2, () -> chat.edit(0, 0));
        Check.due("the other one's version", 0, () -> chat.messageOf(1, 3));
        Check.refused("edit of another author's", Check.STATE, () -> chat.edit(1, 0));
        Check.refused("edit(0, 2)", Check.INDEX, () -> chat.edit(0, 2));
        Check.refused("edit(0, -1)", Check.INDEX, () -> chat.edit(0, -1));
        Check.refused("edit(2, 0)", Check.INDEX, () -> chat.edit(2, 0));
        Check.refused("edit(-1, 0)", Check.INDEX, () -> chat.edit(-1, 0));
        Check.due("refused edits change nothing", 2, () -> chat.messageOf(0, 3));
        chat.pass(720);
        chat.archive(0);
        Check.refused("edit of an archived one", Check.STATE, () -> chat.edit(0, 0));
        Check.due("its version", 2, () -> chat.messageOf(0, 3));
    }

    private static void promise8Mark() {
        MarkChat chat = Chats.withUsers(1, 1, 0);
        chat.post(0, 0, -1);
        chat.post(0, 0, -1);
        Check.due("YES", 1, () -> chat.mark(0, 0, 0));
        Check.due("NO in its place", 1, () -> chat.mark(0, 0, 1));
        Check.due("of another user", 2, () -> chat.mark(1, 0, 0));
        Check.due("a GUEST's does not count", 2, () -> chat.mark(2, 0, 1));
        Check.due("a GUEST takes it off", 2, () -> chat.mark(2, 0, -1));
        Check.refused("it is off", Check.STATE, () -> chat.mark(2, 0, -1));
        Check.due("take off", 1, () -> chat.mark(0, 0, -1));
        Check.refused("none to take off", Check.STATE, () -> chat.mark(0, 0, -1));
        Check.refused("none there", Check.STATE, () -> chat.mark(0, 1, -1));
        chat.edit(0, 0);
        Check.refused("none of that version", Check.STATE, () -> chat.mark(1, 0, -1));
        Check.due("of the new version", 1, () -> chat.mark(1, 0, 0));
        Check.refused("mark(3, 0, 2)", Check.INDEX, () -> chat.mark(3, 0, 2));
        Check.refused("mark(-1, 0, 0)", Check.INDEX, () -> chat.mark(-1, 0, 0));
        Check.refused("mark(0, 2, 2)", Check.INDEX, () -> chat.mark(0, 2, 2));
        Check.refused("mark(0, -1, 0)", Check.INDEX, () -> chat.mark(0, -1, 0));
        Check.refused("mark(0, 0, 2)", Check.ARGUMENT, () -> chat.mark(0, 0, 2));
        Check.refused("mark(0, 0, -2)", Check.ARGUMENT, () -> chat.mark(0, 0, -2));
        Check.due("refused marks change nothing", 1, () -> chat.messageOf(0, 6));
        chat.pass(720);
        chat.archive(0);
        Check.refused("mark of an archived one", Check.STATE, () -> chat.mark(0, 0, 0));
        Check.refused("taken off an archived one", Check.STATE, () -> chat.mark(1, 0, -1));
        Check.refused("archived, and no such kind", Check.ARGUMENT, () -> chat.mark(1, 0, 2));
        Check.due("marks of archived ones count on", 1, () -> chat.messageOf(0, 6));
    }

    private static void promise8Counting() {
        MarkChat chat = Chats.withUsers(1, 2, 0);
        chat.post(0, 3, -1);
        chat.mark(0, 0, 0);
        chat.mark(1, 0, 1);
        chat.mark(2, 0, 0);
        Check.due("no GUEST", 2, () -> chat.messageOf(0, 6));
        chat.role(2, 1);
        Check.due("a GUEST no more", 3, () -> chat.messageOf(0, 6));
        chat.role(0, 0);
        Check.due("a GUEST now", 2, () -> chat.messageOf(0, 6));
        chat.ends(1, 2);
        Check.due("not gone yet", 2, () -> chat.messageOf(0, 6));
        chat.pass(2);
        Check.due("gone", 1, () -> chat.messageOf(0, 6));
        chat.ends(1, 1);
        Check.due("not gone any more", 2, () -> chat.messageOf(0, 6));
        chat.edit(0, 0);
        Check.due("another version", 0, () -> chat.messageOf(0, 6));
    }

    /** Behind the 512th call answers are free, but the machine itself may still not throw. */
    private static void promise8BeyondAllCalls() {
        MarkChat chat = Chats.withUsers(1);
        chat.post(0, 0, -1);
        for (int i = 0; i < 2000; i++) {
            int kind = i % 2;
            String marked = Check.outcome(() -> chat.mark(0, 0, kind));
            String edited = Check.outcome(() -> chat.edit(0, 0));
            boolean isFree = (marked.equals("1") || marked.equals("throws.IllegalStateException"))
                    && (edited.equals("" + (i + 1)) || edited.equals("throws.IllegalStateException"));
            Check.report("mark and edit, " + marked + " and " + edited, "true", "" + isFree);
        }
    }

    private static void promise15MessageOf() {
        MarkChat chat = Chats.withUsers(1, 2);
        chat.post(0, 2, -1);
        chat.pass(3);
        chat.post(1, 2, 0);
        chat.edit(1, 1);
        chat.mark(0, 1, 1);
        int[] first = {0, 2, -1, 0, 0, 0, 0};
        int[] second = {1, 2, 0, 1, 3, 0, 1};
        for (int i = 0; i < 7; i++) {
            int what = i;
            Check.due("messageOf(0, " + what + ")", first[what], () -> chat.messageOf(0, what));
            Check.due("messageOf(1, " + what + ")", second[what], () -> chat.messageOf(1, what));
        }
        chat.pass(720);
        chat.archive(2);
        Check.due("archived", 1, () -> chat.messageOf(0, 5));
        Check.due("its hour", 3, () -> chat.messageOf(1, 4));
        Check.refused("messageOf(0, 7)", Check.ARGUMENT, () -> chat.messageOf(0, 7));
        Check.refused("messageOf(0, -1)", Check.ARGUMENT, () -> chat.messageOf(0, -1));
        Check.refused("messageOf(2, 7)", Check.INDEX, () -> chat.messageOf(2, 7));
        Check.refused("messageOf(-1, 0)", Check.INDEX, () -> chat.messageOf(-1, 0));
    }

    private static void promise16IsApproved() {
        MarkChat chat = Chats.withUsers(3, 2, 1, 0);
        chat.post(0, 0, -1);
        Chats.approved("without marks", false, chat, 0, 1);
        chat.mark(0, 0, 0);
        Chats.approved("by its author", false, chat, 0, 1);
        chat.mark(2, 0, 0);
        Chats.approved("by a MEMBER", false, chat, 0, 1);
        chat.mark(1, 0, 0);
        Chats.approved("by a LEAD", true, chat, 0, 1);
        chat.mark(3, 0, 1);
        Chats.approved("against a GUEST", true, chat, 0, 1);
        chat.mark(2, 0, 1);
        Chats.approved("against a MEMBER", false, chat, 0, 1);
        chat.mark(2, 0, -1);
        Chats.approved("the NO is off", true, chat, 0, 1);
        chat.mark(0, 0, 1);
        Chats.approved("against its author", false, chat, 0, 1);
        chat.ends(0, 0);
        Chats.approved("whose NO is gone", true, chat, 0, 1);
        chat.role(1, 1);
        Chats.approved("by a MEMBER now", false, chat, 0, 1);
        chat.role(1, 3);
        Chats.approved("by a CHIEF now", true, chat, 0, 1);
        chat.ends(1, 1);
        Chats.approved("not gone yet", true, chat, 0, 1);
        chat.pass(1);
        Chats.approved("gone", false, chat, 0, 1);
        chat.ends(1, -1);
        chat.ends(0, -1);
        chat.mark(0, 0, -1);
        Chats.approved("both back", true, chat, 0, 1);
        chat.edit(0, 0);
        Chats.approved("another version", false, chat, 0, 1);
        Check.refused("isApproved(0, 0)", Check.ARGUMENT, () -> chat.isApproved(0, 0, false));
        Check.refused("isApproved(0, 1000001)", Check.ARGUMENT, () -> chat.isApproved(0, 1000001, true));
        Check.refused("isApproved(1, 0)", Check.INDEX, () -> chat.isApproved(1, 0, false));
        Check.refused("isApproved(-1, 1)", Check.INDEX, () -> chat.isApproved(-1, 1, true));
    }

    private static void promise16OneAndTwo() {
        MarkChat chat = Chats.withUsers(3, 2, 2, 3, 3);
        chat.post(0, 0, -1);
        chat.post(3, 0, -1);
        chat.mark(0, 0, 0);
        chat.mark(1, 0, 0);
        Chats.approved("1000 by a LEAD", true, chat, 0, 1000);
        Chats.approved("1001 by a LEAD, and its author", false, chat, 0, 1001);
        Chats.approved("marks of another message", false, chat, 1, 1);
        chat.mark(2, 0, 0);
        Chats.approved("1001 by two LEADs", false, chat, 0, 1001);
        chat.mark(1, 0, -1);
        chat.mark(3, 0, 0);
        Chats.approved("1001 by a LEAD and a CHIEF", true, chat, 0, 1001);
        Chats.approved("the most", true, chat, 0, 1000000);
        chat.mark(2, 0, -1);
        Chats.approved("1001 by a CHIEF", false, chat, 0, 1001);
        chat.mark(4, 0, 0);
        Chats.approved("1001 by two CHIEFs", true, chat, 0, 1001);
        chat.mark(1, 0, 1);
        Chats.approved("against a LEAD", false, chat, 0, 1001);
        Chats.approved("against a LEAD", false, chat, 0, 1);
    }
}
