/** Promises 10, 11, 13 and 19 to 21: tasks, their order and labels, and archives. */
public final class TasksTest {
    private TasksTest() {
    }

    public static void main(String[] args) {
        promise10Task();
        promise10MostTasks();
        promise11Done();
        promise13Archive();
        promise13WhatKeepsAMessage();
        promise13Threads();
        promise19Next();
        promise20TaskOf();
        promise21Label();
        Check.end();
    }

    private static void promise10Task() {
        MarkChat chat = Chats.withUsers(0, 1);
        chat.post(1, 0, -1);
        Check.due("task, by a GUEST", 0, () -> chat.task(0, 0, 1, 0));
        Check.due("task, latest", 1, () -> chat.task(1, 0, 0, 10000));
        Check.due("of the hour", "0.0>0@10000", () -> Chats.labelOf(chat, 1));
        Check.refused("task(2, 0, 0, -1)", Check.INDEX, () -> chat.task(2, 0, 0, -1));
        Check.refused("task(-1, 0, 0, 0)", Check.INDEX, () -> chat.task(-1, 0, 0, 0));
        Check.refused("task(0, 1, 0, -1)", Check.INDEX, () -> chat.task(0, 1, 0, -1));
        Check.refused("task(0, -1, 0, 0)", Check.INDEX, () -> chat.task(0, -1, 0, 0));
        Check.refused("task(0, 0, 2, -1)", Check.INDEX, () -> chat.task(0, 0, 2, -1));
        Check.refused("task(0, 0, -1, 0)", Check.INDEX, () -> chat.task(0, 0, -1, 0));
        Check.refused("task(0, 0, 0, -1)", Check.ARGUMENT, () -> chat.task(0, 0, 0, -1));
        Check.refused("task(0, 0, 0, 10001)", Check.ARGUMENT, () -> chat.task(0, 0, 0, 10001));
        Check.refused("refused tasks have no number", Check.INDEX, () -> chat.taskOf(2));
        chat.post(1, 0, -1);
        chat.pass(720);
        Check.due("archive", 1, () -> chat.archive(0));
        Check.refused("of an archived one", Check.STATE, () -> chat.task(0, 1, 0, 0));
        Check.refused("of an archived one, out of range", Check.ARGUMENT, () -> chat.task(0, 1, 0, -1));
        Check.due("born OPEN, even late", 2, () -> chat.task(0, 0, 0, 0));
        Check.due("OPEN", 0, () -> chat.taskOf(2));
        Check.due("from now on", "0.0>0@720", () -> Chats.labelOf(chat, 2));
    }

    private static void promise10MostTasks() {
        MarkChat chat = Chats.withUsers(1);
        chat.post(0, 0, -1);
        for (int i = 0; i < 60; i++) {
            int number = i;
            Check.due("task", number, () -> chat.task(0, 0, 0, 100 - number));
        }
        Check.refused("a 61st task", Check.STATE, () -> chat.task(0, 0, 0, 1));
        Check.refused("a 61st task, for none", Check.INDEX, () -> chat.task(0, 0, 1, 1));
        Check.due("next of all", 59, () -> chat.next(0, 0));
        Check.due("last of all", 0, () -> chat.next(0, 59));
        Check.due("none behind them", -1, () -> chat.next(0, 60));
        chat.edit(0, 0);
        Check.refused("numbers are not used again", Check.STATE, () -> chat.task(0, 0, 0, 1));
        Check.due("none OPEN", -1, () -> chat.next(0, 0));
    }

    private static void promise11Done() {
        MarkChat chat = Chats.withUsers(0, 1);
        chat.post(1, 0, -1);
        chat.task(1, 0, 0, 5);
        chat.task(1, 0, 0, 5);
        chat.task(1, 0, 0, 5);
        chat.task(1, 0, 0, 5);
        Check.refused("not for that user", Check.STATE, () -> chat.done(1, 0));
        Check.refused("done(2, 0)", Check.INDEX, () -> chat.done(2, 0));
        Check.refused("done(-1, 0)", Check.INDEX, () -> chat.done(-1, 0));
        Check.refused("done(0, 4)", Check.INDEX, () -> chat.done(0, 4));
        Check.refused("done(0, -1)", Check.INDEX, () -> chat.done(0, -1));
        Check.due("early", 5, () -> chat.done(0, 0));
        Check.refused("twice", Check.STATE, () -> chat.done(0, 0));
        chat.pass(5);
        Check.due("in time", 0, () -> chat.done(0, 1));
        chat.pass(2);
        Check.due("late", -2, () -> chat.done(0, 2));
        chat.edit(1, 0);
        Check.refused("DROPPED", Check.STATE, () -> chat.done(0, 3));
    }

    private static void promise13Archive() {
        MarkChat chat = Chats.withUsers(1);
        Check.due("an empty channel", 0, () -> chat.archive(5));
        Check.refused("archive(6)", Check.INDEX, () -> chat.archive(6));
        Check.refused("archive(-1)", Check.INDEX, () -> chat.archive(-1));
        chat.post(0, 1, -1);
        chat.post(0, 2, -1);
        chat.pass(1);
        chat.post(0, 1, -1);
        chat.pass(718);
        Check.due("719 hours old", 0, () -> chat.archive(1));
        chat.pass(1);
        chat.hold(1);
        Check.refused("on hold", Check.STATE, () -> chat.archive(1));
        Check.due("on hold, all stays", 0, () -> chat.messageOf(0, 5));
        chat.hold(1);
        Check.due("720 hours old", 1, () -> chat.archive(1));
        Check.due("the old one", 1, () -> chat.messageOf(0, 5));
        Check.due("of another channel", 0, () -> chat.messageOf(1, 5));
        Check.due("the younger one", 0, () -> chat.messageOf(2, 5));
        Check.due("not again", 0, () -> chat.archive(1));
        chat.hold(1);
        Check.due("another one's hold", 1, () -> chat.archive(2));
        chat.hold(1);
        chat.pass(100);
        Check.due("older", 1, () -> chat.archive(1));
        Check.refused("replied to", Check.STATE, () -> chat.post(0, 1, 0));
    }

    private static void promise13WhatKeepsAMessage() {
        MarkChat chat = Chats.withUsers(1, 2);
        chat.budget(0, 10);
        chat.post(0, 0, -1);
        chat.post(0, 0, -1);
        chat.post(0, 0, -1);
        chat.mark(1, 0, 0);
        chat.spend(0, 0, 1);
        chat.task(0, 1, 0, 1);
        chat.task(0, 2, 0, 1);
        chat.pass(1000);
        Check.due("all are kept", 0, () -> chat.archive(0));
        chat.done(0, 0);
        Check.due("the task is DONE", 1, () -> chat.archive(0));
        Check.due("that one", 1, () -> chat.messageOf(1, 5));
        chat.edit(0, 2);
        Check.due("the task is DROPPED", 1, () -> chat.archive(0));
        Check.due("that one", 1, () -> chat.messageOf(2, 5));
        chat.mark(1, 0, -1);
        Check.due("the spend WENT_BACK", 1, () -> chat.archive(0));
        Check.due("that one", 1, () -> chat.messageOf(0, 5));
    }

    private static void promise13Threads() {
        MarkChat chat = Chats.withUsers(1);
        chat.post(0, 0, -1);
        chat.post(0, 0, 0);
        chat.post(0, 0, 1);
        chat.post(0, 0, -1);
        chat.task(0, 2, 0, 1);
        chat.pass(720);
        Check.due("above an unarchived reply", 1, () -> chat.archive(0));
        Check.due("the parent of the parent", 0, () -> chat.messageOf(0, 5));
        Check.due("the parent", 0, () -> chat.messageOf(1, 5));
        Check.due("the one without replies", 1, () -> chat.messageOf(3, 5));
        chat.done(0, 0);
        Check.due("a thread at once", 3, () -> chat.archive(0));
        MarkChat young = Chats.withUsers(1);
        young.post(0, 0, -1);
        young.pass(720);
        young.post(0, 0, 0);
        Check.due("a young reply keeps it", 0, () -> young.archive(0));
        young.pass(720);
        Check.due("an old reply does not", 2, () -> young.archive(0));
    }

    private static void promise19Next() {
        MarkChat chat = Chats.withUsers(1, 1);
        chat.post(0, 0, -1);
        chat.post(0, 0, -1);
        Check.due("none", -1, () -> chat.next(0, 0));
        chat.task(0, 0, 1, 30);
        chat.task(0, 0, 1, 10);
        chat.task(0, 1, 1, 20);
        chat.task(0, 0, 1, 10);
        chat.task(0, 0, 0, 0);
        int[] order = {1, 3, 2, 0, -1};
        for (int i = 0; i < order.length; i++) {
            int rank = i;
            Check.due("next(1, " + rank + ")", order[rank], () -> chat.next(1, rank));
        }
        Check.due("of another user", 4, () -> chat.next(0, 0));
        Check.due("a great rank", -1, () -> chat.next(1, Integer.MAX_VALUE));
        chat.pass(5);
        chat.task(0, 0, 1, 4);
        chat.task(0, 0, 1, 5);
        Check.due("earlier than all", 5, () -> chat.next(1, 0));
        Check.due("as early as others", 6, () -> chat.next(1, 3));
        chat.done(1, 1);
        Check.due("without the DONE", 3, () -> chat.next(1, 1));
        chat.edit(0, 0);
        Check.due("without the DROPPED", 2, () -> chat.next(1, 0));
        Check.due("no more", -1, () -> chat.next(1, 1));
        Check.refused("next(1, -1)", Check.INDEX, () -> chat.next(1, -1));
        Check.refused("next(2, 0)", Check.INDEX, () -> chat.next(2, 0));
        Check.refused("next(-1, 0)", Check.INDEX, () -> chat.next(-1, 0));
    }

    private static void promise20TaskOf() {
        MarkChat chat = Chats.withUsers(1);
        chat.post(0, 0, -1);
        chat.post(0, 0, -1);
        chat.task(0, 0, 0, 1);
        chat.task(0, 0, 0, 1);
        chat.task(0, 1, 0, 1);
        Check.due("OPEN", 0, () -> chat.taskOf(0));
        chat.done(0, 0);
        Check.due("DONE", 1, () -> chat.taskOf(0));
        chat.edit(0, 0);
        Check.due("DONE stays", 1, () -> chat.taskOf(0));
        Check.due("DROPPED", 2, () -> chat.taskOf(1));
        Check.due("of another message", 0, () -> chat.taskOf(2));
        Check.refused("taskOf(3)", Check.INDEX, () -> chat.taskOf(3));
        Check.refused("taskOf(-1)", Check.INDEX, () -> chat.taskOf(-1));
    }

    private static void promise21Label() {
        MarkChat chat = Chats.withUsers(1, 1, 1, 1, 1, 1, 1, 1, 1, 1, 1, 1);
        for (int i = 0; i < 13; i++) {
            chat.post(0, 0, -1);
        }
        chat.task(0, 12, 3, 48);
        Check.due("the document's", "12.0>3@48", () -> Chats.labelOf(chat, 0));
        for (int i = 0; i < 10; i++) {
            chat.edit(0, 12);
        }
        chat.pass(1000);
        chat.task(0, 12, 11, 9000);
        Check.due("as it was born", "12.0>3@48", () -> Chats.labelOf(chat, 0));
        Check.due("the longer one", "12.10>11@10000", () -> Chats.labelOf(chat, 1));
        Check.due("the first sign", '1', () -> chat.label(0, 0));
        Check.due("the last sign", '8', () -> chat.label(0, 8));
        Check.due("behind it", (char) 0, () -> chat.label(0, 9));
        Check.due("far behind it", (char) 0, () -> chat.label(0, Integer.MAX_VALUE));
        Check.refused("label(0, -1)", Check.INDEX, () -> chat.label(0, -1));
        Check.refused("label(2, 0)", Check.INDEX, () -> chat.label(2, 0));
        Check.refused("label(-1, 0)", Check.INDEX, () -> chat.label(-1, 0));
    }
}
