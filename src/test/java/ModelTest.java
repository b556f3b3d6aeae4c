/** All promises: long runs of calls, in the class and in the Model, with the same answer to each. */
public final class ModelTest {
    private static final int RUNS = 1500;
    private static final int CALLS = 512;
    /** One for each call of the face but left; numbers above it stand for the calls that are made more often. */
    private static final int KINDS = 20;

    private final MarkChat chat = new MarkChat();
    private final Model model = new Model();
    private final boolean isWild;
    private final int users;
    private final int posts;
    /** How seldom long times pass: spends and marks need calm runs, archives need others. */
    private final int calm;
    private long seed;

    private ModelTest(int run) {
        seed = run * 7919L + 17;
        isWild = run % 4 == 0;
        users = 2 + draw(12);
        posts = 1 + draw(run % 3 == 0 ? 81 : 6);
        calm = draw(3);
    }

    public static void main(String[] args) {
        for (int run = 0; run < RUNS; run++) {
            new ModelTest(run).play(run);
        }
        Check.end();
    }

    /** A number from 0 to below the bound, the same ones for each seed. */
    private int draw(int bound) {
        seed = seed * 6364136223846793005L + 1442695040888963407L;
        return (int) ((seed >>> 33) % bound);
    }

    /** A number that mostly is in the range, and in wild runs beside it now and then. */
    private int near(int low, int high) {
        if (isWild && draw(25) == 0) {
            int[] wrong = {low - 1, high + 1, Integer.MIN_VALUE, Integer.MAX_VALUE};
            return wrong[draw(wrong.length)];
        }
        return low + draw(high - low + 1);
    }

    private int someUser() {
        return near(0, users - 1);
    }

    private int someMessage() {
        return near(0, draw(2) == 0 ? Math.min(2, posts - 1) : posts - 1);
    }

    private int someAmount() {
        int[] amounts = {1, 400, 999, 1000, 1001, 1002, 5000, 1000000};
        return draw(10) == 0 ? near(1, 1000000) : amounts[draw(amounts.length)];
    }

    private int someHours(int low, int high) {
        int[] hours = {1, 1, 2, 5, 24, 719, 720};
        return draw(3) == 0 ? near(low, high) : hours[draw(calm == 0 ? hours.length : 5)];
    }

    private void play(int run) {
        for (int call = 0; call < CALLS; call++) {
            int kind = call < users ? 0 : call < users + 3 ? 3 : draw(KINDS + 14);
            String where = "run " + run + ", call " + call + ": ";
            if (kind < 7) {
                tellChat(where, kind);
            } else if (kind < 14) {
                tellMessages(where, kind);
            } else if (kind < KINDS) {
                ask(where, kind);
            } else {
                often(where, kind);
            }
        }
    }

    private void same(String what, Check.Call got, Check.Call want) {
        Check.report(what, Check.outcome(want), Check.outcome(got));
    }

    private void tellChat(String where, int kind) {
        int user = someUser();
        int channel = near(0, draw(3) == 0 ? 5 : 1);
        if (kind == 0) {
            int role = near(0, 3);
            same(where + "user(" + role + ")", () -> chat.user(role), () -> model.user(role));
        } else if (kind == 1) {
            int role = near(0, 3);
            same(where + "role(" + user + ", " + role + ")", () -> chat.role(user, role),
                    () -> model.role(user, role));
        } else if (kind == 2) {
            int hours = draw(2) == 0 ? -1 : someHours(-1, 40);
            same(where + "ends(" + user + ", " + hours + ")", () -> chat.ends(user, hours),
                    () -> model.ends(user, hours));
        } else if (kind == 3) {
            int cents = near(0, 1000000);
            same(where + "budget(" + channel + ", " + cents + ")", () -> chat.budget(channel, cents),
                    () -> model.budget(channel, cents));
        } else if (kind == 4) {
            same(where + "hold(" + channel + ")", () -> chat.hold(channel), () -> model.hold(channel));
        } else if (kind == 5) {
            same(where + "archive(" + channel + ")", () -> chat.archive(channel), () -> model.archive(channel));
        } else if (calm < 2 || draw(6) == 0) {
            int hours = someHours(1, 1000);
            same(where + "pass(" + hours + ")", () -> chat.pass(hours), () -> model.pass(hours));
        }
    }

    private void tellMessages(String where, int kind) {
        int user = someUser();
        int message = someMessage();
        if (kind == 7 || kind == 8) {
            int channel = near(0, draw(3) == 0 ? 5 : 1);
            int parent = draw(2) == 0 ? -1 : someMessage();
            same(where + "post(" + user + ", " + channel + ", " + parent + ")",
                    () -> chat.post(user, channel, parent), () -> model.post(user, channel, parent));
        } else if (kind == 9) {
            int author = draw(4) == 0 ? user : model.authorOf(message, user);
            same(where + "edit(" + author + ", " + message + ")", () -> chat.edit(author, message),
                    () -> model.edit(author, message));
        } else if (kind == 10) {
            int mark = draw(5) > 1 ? 0 : near(-1, 1);
            same(where + "mark(" + user + ", " + message + ", " + mark + ")",
                    () -> chat.mark(user, message, mark), () -> model.mark(user, message, mark));
        } else if (kind == 11) {
            int amount = someAmount();
            same(where + "spend(" + user + ", " + message + ", " + amount + ")",
                    () -> chat.spend(user, message, amount), () -> model.spend(user, message, amount));
        } else if (kind == 12) {
            int doer = someUser();
            int hours = someHours(0, 10000);
            same(where + "task(" + user + ", " + message + ", " + doer + ", " + hours + ")",
                    () -> chat.task(user, message, doer, hours), () -> model.task(user, message, doer, hours));
        } else {
            int task = near(0, 10);
            int doer = draw(4) == 0 ? user : model.doerOf(task, user);
            same(where + "done(" + doer + ", " + task + ")", () -> chat.done(doer, task),
                    () -> model.done(doer, task));
        }
    }

    private void ask(String where, int kind) {
        int message = someMessage();
        int spend = near(0, 10);
        int task = near(0, 10);
        int what = near(0, kind == 14 ? 6 : 3);
        if (kind == 14) {
            same(where + "messageOf(" + message + ", " + what + ")", () -> chat.messageOf(message, what),
                    () -> model.messageOf(message, what));
        } else if (kind == 15) {
            int amount = someAmount();
            boolean isAnew = draw(2) == 0;
            same(where + "isApproved(" + message + ", " + amount + ", " + isAnew + ")",
                    () -> chat.isApproved(message, amount, isAnew), () -> model.isApproved(message, amount));
        } else if (kind == 16) {
            same(where + "spendOf(" + spend + ", " + what + ")", () -> chat.spendOf(spend, what),
                    () -> model.spendOf(spend, what));
        } else if (kind == 17) {
            int user = someUser();
            int rank = near(0, 6);
            same(where + "next(" + user + ", " + rank + ")", () -> chat.next(user, rank),
                    () -> model.next(user, rank));
        } else if (kind == 18) {
            same(where + "taskOf(" + task + ")", () -> chat.taskOf(task), () -> model.taskOf(task));
        } else {
            int place = near(0, 18);
            same(where + "label(" + task + ", " + place + ")", () -> chat.label(task, place),
                    () -> model.label(task, place));
        }
    }

    /** What much hangs on: marks, spends, and what became of them. */
    private void often(String where, int kind) {
        int channel = near(0, 5);
        if (kind < KINDS + 8) {
            tellMessages(where, 10 + kind % 2);
        } else if (kind < KINDS + 10) {
            ask(where, 16);
        } else if (kind < KINDS + 12) {
            ask(where, 14 + kind % 2);
        } else {
            same(where + "left(" + channel + ")", () -> chat.left(channel), () -> model.left(channel));
        }
    }
}
