import java.util.ArrayList;
import java.util.List;

/**
 * Two chats told the same. One of them is then told a call that is to be refused: behind it, both have the same
 * answers to all that may be asked, and to what is told later. So a refused call that changes something shows.
 */
final class Twins {
    /** Makes a chat, with at most 240 calls: with those below, each object stays under its 512. */
    interface Scene {
        MarkChat chat();
    }

    interface Call {
        Object of(MarkChat chat);
    }

    private static final int CALLS = 260;

    private final Scene scene;
    private final int users;
    private final int messages;
    private final int spends;
    private final int tasks;

    private Twins(Scene scene) {
        this.scene = scene;
        MarkChat asked = scene.chat();
        users = count(12, number -> asked.next(number, 0));
        messages = count(80, number -> asked.messageOf(number, 0));
        spends = count(60, number -> asked.spendOf(number, 0));
        tasks = count(60, number -> asked.taskOf(number));
    }

    private interface Numbered {
        Object of(int number);
    }

    private static int count(int most, Numbered question) {
        int number = 0;
        while (number < most) {
            int asked = number;
            if (Check.outcome(() -> question.of(asked)).startsWith("throws.")) {
                break;
            }
            number++;
        }
        return number;
    }

    /** Looks at the exception, and that nothing has changed. */
    static void refused(String what, Class<? extends RuntimeException> want, Scene scene, Call call) {
        Twins twins = new Twins(scene);
        Check.refused(what, want, () -> call.of(scene.chat()));
        List<List<Call>> sequels = twins.sequels();
        for (int i = 0; i < sequels.size(); i++) {
            twins.same(what + ", and what comes then", call, sequels.get(i));
        }
    }

    private List<List<Call>> sequels() {
        List<List<Call>> sequels = new ArrayList<>();
        List<Call> questions = questions();
        for (int from = 0; from < questions.size(); from += CALLS) {
            sequels.add(questions.subList(from, Math.min(from + CALLS, questions.size())));
        }
        sequels.add(rolesAndNumbers());
        sequels.add(comebacks());
        sequels.add(edits());
        sequels.add(ends());
        sequels.add(dones());
        sequels.add(archives());
        sequels.add(spendings());
        return sequels;
    }

    private void same(String what, Call refused, List<Call> sequel) {
        MarkChat told = scene.chat();
        MarkChat untold = scene.chat();
        Check.outcome(() -> refused.of(told));
        for (int i = 0; i < sequel.size(); i++) {
            Call call = sequel.get(i);
            Check.report(what, Check.outcome(() -> call.of(untold)), Check.outcome(() -> call.of(told)));
        }
    }

    private List<Call> questions() {
        List<Call> questions = new ArrayList<>();
        for (int message = 0; message <= messages; message++) {
            askOfMessage(questions, message);
        }
        for (int spend = 0; spend <= spends; spend++) {
            for (int what = 0; what < 4; what++) {
                int number = spend;
                int asked = what;
                questions.add(chat -> chat.spendOf(number, asked));
            }
        }
        for (int task = 0; task <= tasks; task++) {
            int number = task;
            questions.add(chat -> chat.taskOf(number));
            for (int place = 0; place < 15; place++) {
                int asked = place;
                questions.add(chat -> chat.label(number, asked));
            }
        }
        for (int user = 0; user <= users; user++) {
            for (int rank = 0; rank < 6; rank++) {
                int number = user;
                int asked = rank;
                questions.add(chat -> chat.next(number, asked));
            }
        }
        for (int channel = 0; channel < 6; channel++) {
            int number = channel;
            questions.add(chat -> chat.left(number));
        }
        return questions;
    }

    private static void askOfMessage(List<Call> questions, int message) {
        for (int what = 0; what < 7; what++) {
            int asked = what;
            questions.add(chat -> chat.messageOf(message, asked));
        }
        for (int amount = 1000; amount <= 1001; amount++) {
            int asked = amount;
            questions.add(chat -> chat.isApproved(message, asked, false));
            questions.add(chat -> chat.isApproved(message, asked, true));
        }
    }

    /** What no call asks shows in the answers of calls that tell: roles, holds, the hour, and the next numbers. */
    private List<Call> rolesAndNumbers() {
        List<Call> calls = new ArrayList<>();
        for (int user = 0; user <= users; user++) {
            int number = user;
            calls.add(chat -> chat.role(number, MarkChat.CHIEF));
        }
        for (int channel = 0; channel < 6; channel++) {
            int number = channel;
            calls.add(chat -> chat.hold(number));
            calls.add(chat -> chat.budget(number, 1));
            calls.add(chat -> chat.post(0, number, MarkChat.NONE));
        }
        calls.add(chat -> chat.user(MarkChat.MEMBER));
        calls.add(chat -> chat.task(0, 0, 0, 1));
        calls.add(chat -> chat.spend(0, 0, 1));
        calls.add(chat -> chat.pass(1));
        return calls;
    }

    /** With everybody back, and a CHIEF, all marks count: so those that were told while they did not show. */
    private List<Call> comebacks() {
        List<Call> calls = new ArrayList<>();
        for (int user = 0; user < users; user++) {
            int number = user;
            calls.add(chat -> chat.ends(number, MarkChat.NONE));
            calls.add(chat -> chat.role(number, MarkChat.CHIEF));
        }
        for (int message = 0; message < Math.min(messages, 18); message++) {
            askOfMessage(calls, message);
        }
        return calls;
    }

    private List<Call> edits() {
        List<Call> calls = new ArrayList<>();
        for (int message = 0; message <= messages; message++) {
            int number = message;
            calls.add(chat -> chat.mark(0, number, MarkChat.NONE));
            calls.add(chat -> chat.edit(chat.messageOf(number, 0), number));
        }
        return calls;
    }

    /** An hour after the other, each user marks: so the hour from which on a user is gone shows. */
    private List<Call> ends() {
        List<Call> calls = new ArrayList<>();
        int marked = messages - 1;
        for (int hour = 0; hour < 18; hour++) {
            for (int user = 0; user < users; user++) {
                int number = user;
                int kind = hour % 2;
                calls.add(chat -> chat.mark(number, marked, kind));
            }
            calls.add(chat -> chat.pass(1));
        }
        return calls;
    }

    private List<Call> dones() {
        List<Call> calls = new ArrayList<>();
        for (int task = 0; task <= tasks; task++) {
            for (int user = 0; user < Math.min(users, 4); user++) {
                int number = task;
                int doer = user;
                calls.add(chat -> chat.done(doer, number));
            }
        }
        return calls;
    }

    private List<Call> archives() {
        List<Call> calls = new ArrayList<>();
        calls.add(chat -> chat.pass(719));
        for (int channel = 0; channel < 6; channel++) {
            int number = channel;
            calls.add(chat -> chat.archive(number));
        }
        calls.add(chat -> chat.pass(1));
        for (int channel = 0; channel < 6; channel++) {
            int number = channel;
            calls.add(chat -> chat.archive(number));
        }
        for (int message = 0; message <= messages; message++) {
            int number = message;
            calls.add(chat -> chat.messageOf(number, 5));
        }
        return calls;
    }

    private List<Call> spendings() {
        List<Call> calls = new ArrayList<>();
        for (int channel = 0; channel < 6; channel++) {
            int number = channel;
            calls.add(chat -> chat.budget(number, 2000));
        }
        for (int message = 0; message <= messages; message++) {
            int number = message;
            calls.add(chat -> chat.spend(0, number, 1001));
            calls.add(chat -> chat.left(0));
        }
        return calls;
    }
}
