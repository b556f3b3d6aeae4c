/** Chats as the tests begin with them, and what tests often ask of one. */
final class Chats {
    private Chats() {
    }

    static MarkChat withUsers(int... roles) {
        MarkChat chat = new MarkChat();
        for (int role : roles) {
            chat.user(role);
        }
        return chat;
    }

    /**
     * A MEMBER 0, a LEAD 1, a CHIEF 2 and a GUEST 3 at the hour 3. The MEMBER wrote the message 0 of the channel 0,
     * approved for any amount, and its reply 1, which is not approved; the LEAD wrote the message 2 of the channel 5.
     */
    static MarkChat ordinary() {
        MarkChat chat = withUsers(1, 2, 3, 0);
        chat.budget(0, 5000);
        chat.pass(1);
        chat.post(0, 0, -1);
        chat.post(0, 0, 0);
        chat.post(1, 5, -1);
        chat.edit(0, 0);
        chat.mark(1, 0, 0);
        chat.mark(2, 0, 0);
        chat.mark(3, 0, 1);
        chat.mark(0, 1, 1);
        chat.spend(0, 0, 500);
        chat.spend(3, 0, 1001);
        chat.task(0, 0, 0, 10);
        chat.task(1, 0, 1, 5);
        chat.task(3, 1, 2, 7);
        chat.done(1, 1);
        chat.hold(4);
        chat.ends(2, 9);
        chat.pass(2);
        return chat;
    }

    /** 12 users, 80 messages, 60 spends and 60 tasks, as many as there may be, with 215 calls. */
    static MarkChat full() {
        MarkChat chat = withUsers(1, 2, 3, 0, 1, 2, 3, 0, 1, 2, 3, 0);
        chat.budget(0, 1000);
        for (int i = 0; i < 80; i++) {
            chat.post(i % 12, i % 6, -1);
        }
        chat.mark(1, 0, 0);
        chat.mark(2, 0, 0);
        for (int i = 0; i < 60; i++) {
            chat.spend(i % 12, 0, 10);
        }
        for (int i = 0; i < 60; i++) {
            chat.task(i % 12, i, (i + 1) % 12, i);
        }
        return chat;
    }

    /** Full, the messages from 60 on archived, everybody gone, every channel on hold: 240 calls. */
    static MarkChat nothingPossible() {
        MarkChat chat = full();
        chat.pass(720);
        for (int channel = 0; channel < 6; channel++) {
            chat.archive(channel);
        }
        for (int user = 0; user < 12; user++) {
            chat.ends(user, 0);
        }
        for (int channel = 0; channel < 6; channel++) {
            chat.hold(channel);
        }
        return chat;
    }

    static String labelOf(MarkChat chat, int task) {
        StringBuilder signs = new StringBuilder();
        for (int place = 0; place < 40; place++) {
            char sign = chat.label(task, place);
            if (sign == 0) {
                break;
            }
            signs.append(sign);
        }
        return signs.toString();
    }

    /** Whether a message is approved, as it stands and found anew. */
    static void approved(String what, boolean want, MarkChat chat, int message, int amount) {
        Check.due(what, want, () -> chat.isApproved(message, amount, false));
        Check.due(what + ", anew", want, () -> chat.isApproved(message, amount, true));
    }
}
