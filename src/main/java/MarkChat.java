import java.util.ArrayList;
import java.util.Arrays;

/** A team chat with budgets: messages, marks, spends, tasks and archives, by the promises of DOC.md. */
public final class MarkChat {
    public static final int NONE = -1;
    public static final int GUEST = 0, MEMBER = 1, LEAD = 2, CHIEF = 3;
    public static final int YES = 0, NO = 1;
    public static final int STANDS = 0, WENT_BACK = 1;
    public static final int OPEN = 0, DONE = 1, DROPPED = 2;

    private static final int CHANNELS = 6;
    private static final int MAX_USERS = 12;
    private static final int MAX_MESSAGES = 80;
    private static final int MAX_SPENDS = 60;
    private static final int MAX_TASKS = 60;
    private static final int MAX_TOLD_HOURS = 10000;
    private static final int MAX_PASSED_HOURS = 1000;
    private static final int MAX_CENTS = 1000000;
    private static final int MAX_BUDGET = 1000000000;
    private static final int MAX_AMOUNT_OF_ONE_YES = 1000;
    private static final int ARCHIVE_AGE = 720;
    /** An object is used for at most so many calls, and a call writes one line into the log at most. */
    private static final int MAX_LOG = 512;

    private final ArrayList<Channel> channels;
    private final ArrayList<User> users;
    private final ArrayList<Message> messages;
    private final ArrayList<Spend> spends;
    private final ArrayList<Task> tasks;
    private final Log log;
    /** Made once and used again by every call that finds marks anew. */
    private final Marks marksAnew;
    private int hour;

    public MarkChat() {
        channels = new ArrayList<>();
        for (int i = 0; i < CHANNELS; i++) {
            channels.add(new Channel(i));
        }
        users = new ArrayList<>();
        messages = new ArrayList<>();
        spends = new ArrayList<>();
        tasks = new ArrayList<>();
        log = new Log();
        marksAnew = new Marks();
        hour = 0;
    }

    public int user(int role) throws IllegalArgumentException, IllegalStateException {
        checkRange(role, GUEST, CHIEF);
        refuseFull(users.size(), MAX_USERS);
        User told = new User(users.size(), role);
        users.add(told);
        return told.number;
    }

    public int role(int user, int role) throws IndexOutOfBoundsException, IllegalArgumentException {
        User told = userAt(user);
        checkRange(role, GUEST, CHIEF);
        int before = told.rank;
        told.rank = role;
        takeSpendsBack();
        return before;
    }

    public int ends(int user, int hours) throws IndexOutOfBoundsException, IllegalArgumentException {
        User told = userAt(user);
        checkRange(hours, NONE, MAX_TOLD_HOURS);
        told.endHour = hours == NONE ? NONE : hour + hours;
        takeSpendsBack();
        return told.endHour;
    }

    public int budget(int channel, int cents)
            throws IndexOutOfBoundsException, IllegalArgumentException, IllegalStateException {
        Channel told = channelAt(channel);
        checkRange(cents, 0, MAX_CENTS);
        if (told.cents + cents > MAX_BUDGET) {
            throw new IllegalStateException("the budget would be too high");
        }
        told.cents += cents;
        return told.cents;
    }

    public int post(int user, int channel, int parent) throws IndexOutOfBoundsException, IllegalStateException {
        User author = userAt(user);
        Channel place = channelAt(channel);
        if (parent != NONE) {
            Message answered = messageAt(parent);
            refuseArchived(answered);
            if (answered.channel.number != place.number) {
                throw new IllegalStateException("the message is of another channel");
            }
        }
        refuseGone(author);
        refuseFull(messages.size(), MAX_MESSAGES);
        Message posted = new Message(messages.size(), author, place, parent, hour);
        messages.add(posted);
        return posted.number;
    }

    public int edit(int user, int message) throws IndexOutOfBoundsException, IllegalStateException {
        User editor = userAt(user);
        Message edited = messageAt(message);
        refuseGone(editor);
        refuseArchived(edited);
        refuseFull(log.size, MAX_LOG);
        if (edited.author.number != editor.number) {
            throw new IllegalStateException("the user is not the author");
        }
        edited.version++;
        edited.marks.clear();
        log.writeEdit(message);
        dropTasksOf(message);
        takeSpendsBack();
        return edited.version;
    }

    public int mark(int user, int message, int kind)
            throws IndexOutOfBoundsException, IllegalArgumentException, IllegalStateException {
        User marker = userAt(user);
        Message marked = messageAt(message);
        checkRange(kind, NONE, NO);
        refuseGone(marker);
        refuseArchived(marked);
        refuseFull(log.size, MAX_LOG);
        if (kind == NONE && marked.marks.kindOf(user) == NONE) {
            throw new IllegalStateException("there is no mark to take off");
        }
        marked.marks.put(user, kind);
        log.writeMark(message, user, kind);
        takeSpendsBack();
        return countMarks(marked.marks);
    }

    public int spend(int user, int message, int amount)
            throws IndexOutOfBoundsException, IllegalArgumentException, IllegalStateException {
        User spender = userAt(user);
        Message approved = messageAt(message);
        checkRange(amount, 1, MAX_CENTS);
        refuseGone(spender);
        refuseArchived(approved);
        refuseFull(spends.size(), MAX_SPENDS);
        if (!approve(approved.marks, approved, amount)) {
            throw new IllegalStateException("the message is not approved for that amount");
        }
        if (approved.channel.cents < amount) {
            throw new IllegalStateException("the budget has not so much");
        }
        approved.channel.cents -= amount;
        Spend made = new Spend(spends.size(), approved, amount);
        spends.add(made);
        return made.number;
    }

    public int task(int user, int message, int forUser, int hours)
            throws IndexOutOfBoundsException, IllegalArgumentException, IllegalStateException {
        User maker = userAt(user);
        Message origin = messageAt(message);
        User doer = userAt(forUser);
        checkRange(hours, 0, MAX_TOLD_HOURS);
        refuseGone(maker);
        refuseArchived(origin);
        refuseFull(tasks.size(), MAX_TASKS);
        Task born = new Task(tasks.size(), origin, doer, hour + hours);
        tasks.add(born);
        return born.number;
    }

    public int done(int user, int task) throws IndexOutOfBoundsException, IllegalStateException {
        User doer = userAt(user);
        Task ended = taskAt(task);
        refuseGone(doer);
        if (ended.doer.number != doer.number) {
            throw new IllegalStateException("the task is for another user");
        }
        if (ended.state != OPEN) {
            throw new IllegalStateException("the task is not open");
        }
        ended.state = DONE;
        return ended.untilHour - hour;
    }

    public boolean hold(int channel) throws IndexOutOfBoundsException {
        Channel told = channelAt(channel);
        told.isOnHold = !told.isOnHold;
        return told.isOnHold;
    }

    public int archive(int channel) throws IndexOutOfBoundsException, IllegalStateException {
        Channel told = channelAt(channel);
        if (told.isOnHold) {
            throw new IllegalStateException("the channel is on hold");
        }
        int archived = 0;
        for (int i = messages.size() - 1; i >= 0; i--) {
            Message message = messages.get(i);
            if (message.channel.number == channel && mayBeArchived(message)) {
                message.isArchived = true;
                archived++;
            }
        }
        return archived;
    }

    public int pass(int hours) throws IllegalArgumentException {
        checkRange(hours, 1, MAX_PASSED_HOURS);
        // As hours pass, users only go and none comes back: no NO begins to count, and a YES that has
        // ceased to count does not count again. So the last hour alone tells what the hours one by one tell.
        hour += hours;
        takeSpendsBack();
        return hour;
    }

    public int messageOf(int message, int what) throws IndexOutOfBoundsException, IllegalArgumentException {
        Message asked = messageAt(message);
        switch (what) {
            case 0:
                return asked.author.number;
            case 1:
                return asked.channel.number;
            case 2:
                return asked.parent;
            case 3:
                return asked.version;
            case 4:
                return asked.postHour;
            case 5:
                return asked.isArchived ? 1 : 0;
            case 6:
                return countMarks(asked.marks);
            default:
                throw new IllegalArgumentException("a message has no such thing");
        }
    }

    public boolean isApproved(int message, int amount, boolean isAnew)
            throws IndexOutOfBoundsException, IllegalArgumentException {
        Message asked = messageAt(message);
        checkRange(amount, 1, MAX_CENTS);
        if (!isAnew) {
            return approve(asked.marks, asked, amount);
        }
        log.readInto(marksAnew, message);
        return approve(marksAnew, asked, amount);
    }

    public int spendOf(int spend, int what) throws IndexOutOfBoundsException, IllegalArgumentException {
        Spend asked = spendAt(spend);
        switch (what) {
            case 0:
                return asked.state;
            case 1:
                return asked.message.number;
            case 2:
                return asked.version;
            case 3:
                return asked.amount;
            default:
                throw new IllegalArgumentException("a spend has no such thing");
        }
    }

    public int left(int channel) throws IndexOutOfBoundsException {
        return channelAt(channel).cents;
    }

    public int next(int user, int rank) throws IndexOutOfBoundsException {
        User asked = userAt(user);
        if (rank < 0) {
            throw new IndexOutOfBoundsException("no such rank");
        }
        for (int i = 0; i < tasks.size(); i++) {
            Task task = tasks.get(i);
            if (task.isOpenFor(asked) && rankOf(task) == rank) {
                return task.number;
            }
        }
        return NONE;
    }

    public int taskOf(int task) throws IndexOutOfBoundsException {
        return taskAt(task).state;
    }

    public char label(int task, int place) throws IndexOutOfBoundsException {
        String text = taskAt(task).text;
        if (place < 0) {
            throw new IndexOutOfBoundsException("no such place");
        }
        return place < text.length() ? text.charAt(place) : (char) 0;
    }

    private User userAt(int number) {
        if (number < 0 || number >= users.size()) {
            throw new IndexOutOfBoundsException("no such user");
        }
        return users.get(number);
    }

    private Channel channelAt(int number) {
        if (number < 0 || number >= channels.size()) {
            throw new IndexOutOfBoundsException("no such channel");
        }
        return channels.get(number);
    }

    private Message messageAt(int number) {
        if (number < 0 || number >= messages.size()) {
            throw new IndexOutOfBoundsException("no such message");
        }
        return messages.get(number);
    }

    private Spend spendAt(int number) {
        if (number < 0 || number >= spends.size()) {
            throw new IndexOutOfBoundsException("no such spend");
        }
        return spends.get(number);
    }

    private Task taskAt(int number) {
        if (number < 0 || number >= tasks.size()) {
            throw new IndexOutOfBoundsException("no such task");
        }
        return tasks.get(number);
    }

    private static void checkRange(int value, int lowest, int highest) {
        if (value < lowest || value > highest) {
            throw new IllegalArgumentException("an argument is out of range");
        }
    }

    private static void refuseFull(int size, int limit) {
        if (size >= limit) {
            throw new IllegalStateException("there would be more than told");
        }
    }

    private void refuseGone(User user) {
        if (user.isGoneAt(hour)) {
            throw new IllegalStateException("the user is gone");
        }
    }

    private static void refuseArchived(Message message) {
        if (message.isArchived) {
            throw new IllegalStateException("the message is archived");
        }
    }

    private int countMarks(Marks marks) {
        int counting = 0;
        for (int i = 0; i < users.size(); i++) {
            if (marks.kindOf(i) != NONE && users.get(i).countsAt(hour)) {
                counting++;
            }
        }
        return counting;
    }

    private boolean approve(Marks marks, Message message, int amount) {
        int leaders = 0;
        int chiefs = 0;
        for (int i = 0; i < users.size(); i++) {
            User user = users.get(i);
            int kind = marks.kindOf(i);
            if (kind == NONE || !user.countsAt(hour)) {
                continue;
            }
            if (kind == NO) {
                return false;
            }
            if (user.rank >= LEAD && i != message.author.number) {
                leaders++;
                chiefs += user.rank == CHIEF ? 1 : 0;
            }
        }
        return amount <= MAX_AMOUNT_OF_ONE_YES ? leaders >= 1 : leaders >= 2 && chiefs >= 1;
    }

    /** To be called behind whatever may change a version, a mark, a role or who is gone. */
    private void takeSpendsBack() {
        for (int i = 0; i < spends.size(); i++) {
            Spend spend = spends.get(i);
            if (spend.state == STANDS && !isStillDue(spend)) {
                spend.state = WENT_BACK;
                spend.message.channel.cents += spend.amount;
            }
        }
    }

    private boolean isStillDue(Spend spend) {
        Message message = spend.message;
        return message.version == spend.version && approve(message.marks, message, spend.amount);
    }

    private void dropTasksOf(int message) {
        for (int i = 0; i < tasks.size(); i++) {
            Task task = tasks.get(i);
            if (task.message == message && task.state == OPEN) {
                task.state = DROPPED;
            }
        }
    }

    private int rankOf(Task task) {
        int earlier = 0;
        for (int i = 0; i < tasks.size(); i++) {
            Task other = tasks.get(i);
            if (other.isOpenFor(task.doer) && other.comesBefore(task)) {
                earlier++;
            }
        }
        return earlier;
    }

    private boolean mayBeArchived(Message message) {
        return !message.isArchived
                && hour - message.postHour >= ARCHIVE_AGE
                && !hasStandingSpend(message.number)
                && !hasOpenTask(message.number)
                && !hasReplyLeft(message.number);
    }

    private boolean hasStandingSpend(int message) {
        for (int i = 0; i < spends.size(); i++) {
            Spend spend = spends.get(i);
            if (spend.message.number == message && spend.state == STANDS) {
                return true;
            }
        }
        return false;
    }

    private boolean hasOpenTask(int message) {
        for (int i = 0; i < tasks.size(); i++) {
            Task task = tasks.get(i);
            if (task.message == message && task.state == OPEN) {
                return true;
            }
        }
        return false;
    }

    private boolean hasReplyLeft(int message) {
        for (int i = 0; i < messages.size(); i++) {
            Message reply = messages.get(i);
            if (reply.parent == message && !reply.isArchived) {
                return true;
            }
        }
        return false;
    }

    private static final class Channel {
        final int number;
        int cents;
        boolean isOnHold;

        Channel(int number) {
            this.number = number;
        }
    }

    private static final class User {
        final int number;
        int rank;
        /** The hour from which on the user is gone, NONE for never. */
        int endHour;

        User(int number, int rank) {
            this.number = number;
            this.rank = rank;
            endHour = NONE;
        }

        boolean isGoneAt(int hour) {
            return endHour != NONE && hour >= endHour;
        }

        boolean countsAt(int hour) {
            return rank != GUEST && !isGoneAt(hour);
        }
    }

    /** The marks of the version that a message has, by the users' numbers: those of older ones never count again. */
    private static final class Marks {
        private final int[] kinds;

        Marks() {
            kinds = new int[MAX_USERS];
            Arrays.fill(kinds, NONE);
        }

        int kindOf(int user) {
            return user >= 0 && user < kinds.length ? kinds[user] : NONE;
        }

        void put(int user, int kind) {
            if (user >= 0 && user < kinds.length) {
                kinds[user] = kind;
            }
        }

        void clear() {
            Arrays.fill(kinds, NONE);
        }
    }

    private static final class Message {
        final int number;
        final User author;
        final Channel channel;
        final int parent;
        final int postHour;
        final Marks marks;
        int version;
        boolean isArchived;

        Message(int number, User author, Channel channel, int parent, int postHour) {
            this.number = number;
            this.author = author;
            this.channel = channel;
            this.parent = parent;
            this.postHour = postHour;
            marks = new Marks();
        }
    }

    private static final class Spend {
        final int number;
        final Message message;
        final int version;
        final int amount;
        int state;

        Spend(int number, Message message, int amount) {
            this.number = number;
            this.message = message;
            version = message.version;
            this.amount = amount;
            state = STANDS;
        }
    }

    private static final class Task {
        final int number;
        final int message;
        final User doer;
        final int untilHour;
        /** Kept, as nothing in it changes later, so that asking for its signs makes no objects. */
        final String text;
        int state;

        Task(int number, Message origin, User doer, int untilHour) {
            this.number = number;
            message = origin.number;
            this.doer = doer;
            this.untilHour = untilHour;
            text = new StringBuilder().append(origin.number).append('.').append(origin.version)
                    .append('>').append(doer.number).append('@').append(untilHour).toString();
            state = OPEN;
        }

        boolean isOpenFor(User user) {
            return state == OPEN && doer.number == user.number;
        }

        boolean comesBefore(Task other) {
            return untilHour < other.untilHour || untilHour == other.untilHour && number < other.number;
        }
    }

    /** All edits and marks, in the order in which they were told. */
    private static final class Log {
        /** Stands in place of a kind of mark. */
        private static final int EDIT = 2;

        private final int[] messages;
        private final int[] users;
        private final int[] kinds;
        int size;

        Log() {
            messages = new int[MAX_LOG];
            users = new int[MAX_LOG];
            kinds = new int[MAX_LOG];
        }

        void writeEdit(int message) {
            write(message, NONE, EDIT);
        }

        void writeMark(int message, int user, int kind) {
            write(message, user, kind);
        }

        private void write(int message, int user, int kind) {
            if (size >= 0 && size < MAX_LOG) {
                messages[size] = message;
                users[size] = user;
                kinds[size] = kind;
                size++;
            }
        }

        void readInto(Marks marks, int message) {
            marks.clear();
            for (int i = 0; i < size && i < MAX_LOG; i++) {
                if (messages[i] != message) {
                    continue;
                }
                if (kinds[i] == EDIT) {
                    marks.clear();
                } else {
                    marks.put(users[i], kinds[i]);
                }
            }
        }
    }
}
