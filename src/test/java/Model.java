import java.util.ArrayList;
import java.util.List;

/**
 * The document told a second time, as plainly as it goes and without a thought for speed: hours pass one by
 * one, marks are never thrown away, and each answer is found from all that was told.
 */
final class Model {
    private static final class Told {
        final int user;
        final int message;
        final int version;
        final int kind;

        Told(int user, int message, int version, int kind) {
            this.user = user;
            this.message = message;
            this.version = version;
            this.kind = kind;
        }
    }

    private int hour = 0;
    private final long[] cents = new long[6];
    private final boolean[] held = new boolean[6];
    private final List<int[]> users = new ArrayList<>();    // role, end
    private final List<int[]> messages = new ArrayList<>(); // author, channel, parent, version, hour, archived
    private final List<int[]> spends = new ArrayList<>();   // state, message, version, amount
    private final List<int[]> tasks = new ArrayList<>();    // state, message, version, user, until
    private final List<Told> marks = new ArrayList<>();

    private static void exists(int number, int size) {
        if (number < 0 || number >= size) {
            throw new IndexOutOfBoundsException();
        }
    }

    private static void notBelowZero(int number) {
        if (number < 0) {
            throw new IndexOutOfBoundsException();
        }
    }

    private static void within(int value, int low, int high) {
        if (value < low || value > high) {
            throw new IllegalArgumentException();
        }
    }

    private static void possible(boolean isPossible) {
        if (!isPossible) {
            throw new IllegalStateException();
        }
    }

    private boolean isGone(int user) {
        int end = users.get(user)[1];
        return end >= 0 && end <= hour;
    }

    private boolean isArchived(int message) {
        return messages.get(message)[5] == 1;
    }

    /** The last mark of the version that the message has, -1 if there is none or it was taken off. */
    private int markOf(int user, int message) {
        int kind = -1;
        for (Told told : marks) {
            if (told.user == user && told.message == message && told.version == messages.get(message)[3]) {
                kind = told.kind;
            }
        }
        return kind;
    }

    private boolean counts(int user, int message) {
        return markOf(user, message) != -1 && !isGone(user) && users.get(user)[0] != 0;
    }

    private int counting(int message) {
        int counting = 0;
        for (int user = 0; user < users.size(); user++) {
            counting += counts(user, message) ? 1 : 0;
        }
        return counting;
    }

    private boolean approved(int message, int amount) {
        int noes = 0;
        int leads = 0;
        int chiefs = 0;
        for (int user = 0; user < users.size(); user++) {
            if (counts(user, message)) {
                boolean isYes = markOf(user, message) == 0;
                boolean isAuthor = messages.get(message)[0] == user;
                noes += isYes ? 0 : 1;
                leads += isYes && !isAuthor && users.get(user)[0] == 2 ? 1 : 0;
                chiefs += isYes && !isAuthor && users.get(user)[0] == 3 ? 1 : 0;
            }
        }
        if (noes > 0) {
            return false;
        }
        return amount > 1000 ? chiefs > 0 && leads + chiefs > 1 : leads + chiefs > 0;
    }

    private void settle() {
        for (int[] spend : spends) {
            int message = spend[1];
            if (spend[0] == 0 && (messages.get(message)[3] != spend[2] || !approved(message, spend[3]))) {
                spend[0] = 1;
                cents[messages.get(message)[1]] += spend[3];
            }
        }
    }

    int user(int role) {
        within(role, 0, 3);
        possible(users.size() < 12);
        users.add(new int[] {role, -1});
        settle();
        return users.size() - 1;
    }

    int role(int user, int role) {
        exists(user, users.size());
        within(role, 0, 3);
        int before = users.get(user)[0];
        users.get(user)[0] = role;
        settle();
        return before;
    }

    int ends(int user, int hours) {
        exists(user, users.size());
        within(hours, -1, 10000);
        users.get(user)[1] = hours == -1 ? -1 : hour + hours;
        settle();
        return users.get(user)[1];
    }

    int budget(int channel, int more) {
        exists(channel, 6);
        within(more, 0, 1000000);
        possible(cents[channel] + more <= 1000000000L);
        cents[channel] += more;
        return (int) cents[channel];
    }

    int post(int user, int channel, int parent) {
        exists(user, users.size());
        exists(channel, 6);
        if (parent != -1) {
            exists(parent, messages.size());
        }
        possible(!isGone(user) && messages.size() < 80);
        possible(parent == -1 || messages.get(parent)[1] == channel && !isArchived(parent));
        messages.add(new int[] {user, channel, parent, 0, hour, 0});
        settle();
        return messages.size() - 1;
    }

    int edit(int user, int message) {
        exists(user, users.size());
        exists(message, messages.size());
        possible(!isGone(user) && messages.get(message)[0] == user && !isArchived(message));
        messages.get(message)[3]++;
        for (int[] task : tasks) {
            if (task[1] == message && task[0] == 0) {
                task[0] = 2;
            }
        }
        settle();
        return messages.get(message)[3];
    }

    int mark(int user, int message, int kind) {
        exists(user, users.size());
        exists(message, messages.size());
        within(kind, -1, 1);
        possible(!isGone(user) && !isArchived(message));
        possible(kind != -1 || markOf(user, message) != -1);
        marks.add(new Told(user, message, messages.get(message)[3], kind));
        settle();
        return counting(message);
    }

    int spend(int user, int message, int amount) {
        exists(user, users.size());
        exists(message, messages.size());
        within(amount, 1, 1000000);
        possible(!isGone(user) && !isArchived(message) && spends.size() < 60);
        int channel = messages.get(message)[1];
        possible(approved(message, amount) && cents[channel] >= amount);
        cents[channel] -= amount;
        spends.add(new int[] {0, message, messages.get(message)[3], amount});
        settle();
        return spends.size() - 1;
    }

    int task(int user, int message, int forUser, int hours) {
        exists(user, users.size());
        exists(message, messages.size());
        exists(forUser, users.size());
        within(hours, 0, 10000);
        possible(!isGone(user) && !isArchived(message) && tasks.size() < 60);
        tasks.add(new int[] {0, message, messages.get(message)[3], forUser, hour + hours});
        settle();
        return tasks.size() - 1;
    }

    int done(int user, int task) {
        exists(user, users.size());
        exists(task, tasks.size());
        possible(!isGone(user) && tasks.get(task)[3] == user && tasks.get(task)[0] == 0);
        tasks.get(task)[0] = 1;
        settle();
        return tasks.get(task)[4] - hour;
    }

    boolean hold(int channel) {
        exists(channel, 6);
        held[channel] = !held[channel];
        settle();
        return held[channel];
    }

    int archive(int channel) {
        exists(channel, 6);
        possible(!held[channel]);
        int archived = 0;
        for (int message = messages.size() - 1; message >= 0; message--) {
            if (messages.get(message)[1] == channel && !isArchived(message) && !isKept(message)) {
                messages.get(message)[5] = 1;
                archived++;
            }
        }
        settle();
        return archived;
    }

    private boolean isKept(int message) {
        boolean isKept = hour - messages.get(message)[4] < 720;
        for (int[] spend : spends) {
            isKept |= spend[1] == message && spend[0] == 0;
        }
        for (int[] task : tasks) {
            isKept |= task[1] == message && task[0] == 0;
        }
        for (int[] reply : messages) {
            isKept |= reply[2] == message && reply[5] == 0;
        }
        return isKept;
    }

    int pass(int hours) {
        within(hours, 1, 1000);
        for (int i = 0; i < hours; i++) {
            hour++;
            settle();
        }
        return hour;
    }

    int messageOf(int message, int what) {
        exists(message, messages.size());
        within(what, 0, 6);
        return what == 6 ? counting(message) : messages.get(message)[what];
    }

    boolean isApproved(int message, int amount) {
        exists(message, messages.size());
        within(amount, 1, 1000000);
        return approved(message, amount);
    }

    int spendOf(int spend, int what) {
        exists(spend, spends.size());
        within(what, 0, 3);
        return spends.get(spend)[what];
    }

    int left(int channel) {
        exists(channel, 6);
        return (int) cents[channel];
    }

    int next(int user, int rank) {
        exists(user, users.size());
        notBelowZero(rank);
        List<Integer> open = new ArrayList<>();
        for (int task = 0; task < tasks.size(); task++) {
            if (tasks.get(task)[3] == user && tasks.get(task)[0] == 0) {
                open.add(task);
            }
        }
        open.sort((a, b) -> tasks.get(a)[4] - tasks.get(b)[4]); // keeps the lower number first
        return rank < open.size() ? open.get(rank) : -1;
    }

    /** This and the next are no calls of the face: by them the tests name users whose calls are possible. */
    int doerOf(int task, int otherwise) {
        return task >= 0 && task < tasks.size() ? tasks.get(task)[3] : otherwise;
    }

    int authorOf(int message, int otherwise) {
        return message >= 0 && message < messages.size() ? messages.get(message)[0] : otherwise;
    }

    int taskOf(int task) {
        exists(task, tasks.size());
        return tasks.get(task)[0];
    }

    char label(int task, int place) {
        exists(task, tasks.size());
        notBelowZero(place);
        int[] told = tasks.get(task);
        String label = told[1] + "." + told[2] + ">" + told[3] + "@" + told[4];
        return place < label.length() ? label.charAt(place) : 0;
    }
}
