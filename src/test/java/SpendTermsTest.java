/** The terms of spends, tasks and archives: each sentence there that names a bound has a test here. */
public final class SpendTermsTest {
    private SpendTermsTest() {
    }

    public static void main(String[] args) {
        spendsAtMost60();
        byWhomever();
        notArchived();
        approvedForItsAmount();
        theBudgetHasSoMuch();
        anotherVersion();
        notApprovedAnyMore();
        notApprovedForItAnyMore();
        whateverHasBeenTold();
        anHourHasCome();
        someHourInBetween();
        forGood();
        allOfThem();
        tasksAtMost60();
        droppedWhileOpen();
        theEarliestHour();
        ofSeveralTheLowest();
        onHold();
        hours720OldOrOlder();
        noSpendStands();
        noTaskIsOpen();
        noReplyThatIsNotArchived();
        higherNumbersFirst();
        archivedIsClosed();
        Check.end();
    }

    /** A LEAD's YES is on the message 0 of the channel 0. */
    private static MarkChat approvedByALead(int cents) {
        MarkChat chat = Chats.withUsers(1, 2, 3, 0);
        chat.budget(0, cents);
        chat.post(0, 0, -1);
        chat.mark(1, 0, 0);
        return chat;
    }

    /** "Spends are numbered from 0, at most 60" */
    private static void spendsAtMost60() {
        MarkChat chat = approvedByALead(100);
        Check.due("the first spend", 0, () -> chat.spend(0, 0, 1));
        for (int i = 1; i < 59; i++) {
            chat.spend(0, 0, 1);
        }
        Check.due("the 60th spend", 59, () -> chat.spend(0, 0, 1));
        Check.refused("a 61st spend", Check.STATE, () -> chat.spend(0, 0, 1));
        Check.due("the 61st takes nothing", 40, () -> chat.left(0));
        chat.mark(1, 0, -1);
        chat.mark(1, 0, 0);
        Check.due("all went back", 100, () -> chat.left(0));
        Check.refused("a 61st spend, with all gone back", Check.STATE, () -> chat.spend(0, 0, 1));
    }

    /** "by whomever" */
    private static void byWhomever() {
        MarkChat chat = approvedByALead(100);
        Check.due("by its author", 0, () -> chat.spend(0, 0, 1));
        Check.due("by a LEAD", 1, () -> chat.spend(1, 0, 1));
        Check.due("by a CHIEF", 2, () -> chat.spend(2, 0, 1));
        Check.due("by a GUEST", 3, () -> chat.spend(3, 0, 1));
    }

    /** "and is approved for its amount" */
    private static void approvedForItsAmount() {
        MarkChat chat = approvedByALead(5000);
        Check.due("1000, approved by one", 0, () -> chat.spend(0, 0, 1000));
        Check.refused("1001, approved by one", Check.STATE, () -> chat.spend(0, 0, 1001));
        chat.mark(2, 0, 0);
        Check.due("1001, approved by two", 1, () -> chat.spend(0, 0, 1001));
        chat.mark(0, 0, 1);
        Check.refused("1, not approved", Check.STATE, () -> chat.spend(0, 0, 1));
    }

    /** "of which the budget of the channel has so much; it takes the amount from it, and STANDS" */
    private static void theBudgetHasSoMuch() {
        MarkChat chat = approvedByALead(0);
        chat.budget(1, 1000);
        Check.refused("of an empty budget", Check.STATE, () -> chat.spend(0, 0, 1));
        chat.budget(0, 10);
        Check.refused("a cent more than there is", Check.STATE, () -> chat.spend(0, 0, 11));
        Check.due("refused, all is left", 10, () -> chat.left(0));
        Check.due("as much as there is", 0, () -> chat.spend(0, 0, 10));
        Check.due("it stands", 0, () -> chat.spendOf(0, 0));
        Check.due("nothing is left", 0, () -> chat.left(0));
        Check.refused("a cent more", Check.STATE, () -> chat.spend(0, 0, 1));
        Check.due("the other channel's", 1000, () -> chat.left(1));
    }

    /** "one hangs on a message that is not archived" */
    private static void notArchived() {
        MarkChat chat = approvedByALead(10);
        chat.pass(720);
        Check.due("not archived, and old", 0, () -> chat.spend(0, 0, 10));
        chat.mark(1, 0, -1);
        chat.mark(1, 0, 0);
        Check.due("archived", 1, () -> chat.archive(0));
        Chats.approved("archived, and approved", true, chat, 0, 10);
        Check.due("archived, and the budget has so much", 10, () -> chat.left(0));
        Check.refused("a spend of what is archived", Check.STATE, () -> chat.spend(0, 0, 10));
    }

    private static void spendIs(String what, MarkChat chat, int spend, int state, int left) {
        Check.due(what + ", spend " + spend, state, () -> chat.spendOf(spend, 0));
        Check.due(what + ", left", left, () -> chat.left(0));
    }

    /** "with its amount going into the budget, if its message has another version than as it was spent" */
    private static void anotherVersion() {
        MarkChat chat = approvedByALead(100);
        chat.post(0, 0, -1);
        chat.edit(0, 0);
        chat.mark(1, 0, 0);
        chat.spend(0, 0, 30);
        spendIs("the version of the spend", chat, 0, 0, 70);
        chat.edit(0, 1);
        spendIs("another message is edited", chat, 0, 0, 70);
        chat.edit(0, 0);
        spendIs("edited", chat, 0, 1, 100);
        chat.mark(1, 0, 0);
        spendIs("edited, and approved", chat, 0, 1, 100);
        Check.due("the version as it was spent", 1, () -> chat.spendOf(0, 2));
    }

    /** "or is not approved for it any more": by each call that may take the approval from it. */
    private static void notApprovedAnyMore() {
        MarkChat chat = approvedByALead(100);
        chat.spend(0, 0, 1);
        chat.mark(1, 0, -1);
        spendIs("the YES is off", chat, 0, 1, 100);
        chat.mark(1, 0, 0);
        chat.spend(0, 0, 2);
        chat.mark(1, 0, 1);
        spendIs("NO in place of YES", chat, 1, 1, 100);
        chat.mark(1, 0, 0);
        chat.spend(0, 0, 3);
        chat.mark(0, 0, 1);
        spendIs("the author's NO", chat, 2, 1, 100);
        chat.mark(0, 0, -1);
        chat.spend(0, 0, 4);
        chat.role(1, 1);
        spendIs("a MEMBER's YES", chat, 3, 1, 100);
        chat.role(1, 3);
        chat.mark(3, 0, 1);
        chat.spend(0, 0, 5);
        chat.role(3, 1);
        spendIs("a NO of a GUEST who is a MEMBER now", chat, 4, 1, 100);
        chat.role(3, 0);
        chat.spend(0, 0, 6);
        chat.ends(1, 0);
        spendIs("gone at once", chat, 5, 1, 100);
        chat.mark(0, 0, 1);
        chat.ends(0, 0);
        chat.ends(1, -1);
        chat.spend(2, 0, 7);
        spendIs("a NO of who is gone", chat, 6, 0, 93);
        chat.ends(0, 1);
        spendIs("a NO of who is back", chat, 6, 1, 100);
    }

    /** "is not approved for it any more": 1000 stands where 1001 goes back. */
    private static void notApprovedForItAnyMore() {
        MarkChat chat = approvedByALead(2001);
        chat.mark(2, 0, 0);
        chat.spend(0, 0, 1001);
        chat.spend(0, 0, 1000);
        chat.role(2, 2);
        spendIs("two LEADs", chat, 0, 1, 1001);
        spendIs("two LEADs", chat, 1, 0, 1001);
        chat.role(2, 3);
        chat.spend(0, 0, 1001);
        chat.mark(1, 0, -1);
        spendIs("a CHIEF alone", chat, 2, 1, 1001);
        spendIs("a CHIEF alone", chat, 1, 0, 1001);
        chat.mark(2, 0, -1);
        spendIs("nobody", chat, 1, 1, 2001);
    }

    /** "Whenever something has been told": nothing goes back by what is told of other things. */
    private static void whateverHasBeenTold() {
        MarkChat chat = approvedByALead(100);
        chat.spend(0, 0, 40);
        chat.post(0, 0, 0);
        chat.mark(0, 1, 1);
        chat.mark(3, 0, 1);
        chat.edit(0, 1);
        chat.role(0, 0);
        chat.ends(3, 0);
        chat.task(0, 0, 0, 1);
        chat.done(0, 0);
        chat.hold(0);
        chat.hold(0);
        chat.pass(1000);
        chat.archive(0);
        chat.user(3);
        Check.due("more for the budget", 61, () -> chat.budget(0, 1));
        spendIs("nothing took the approval", chat, 0, 0, 61);
    }

    /** "or an hour has come" */
    private static void anHourHasCome() {
        MarkChat chat = approvedByALead(2000);
        chat.mark(2, 0, 0);
        chat.ends(1, 3);
        chat.spend(0, 0, 1001);
        chat.spend(0, 0, 500);
        chat.pass(2);
        spendIs("the hour before", chat, 0, 0, 499);
        chat.pass(1);
        spendIs("the hour itself", chat, 0, 1, 1500);
        spendIs("the hour itself", chat, 1, 0, 1500);
    }

    /** "Lets hours pass, one by one": an hour in between is an hour that has come. */
    private static void someHourInBetween() {
        MarkChat chat = approvedByALead(100);
        chat.ends(1, 500);
        chat.spend(0, 0, 100);
        chat.pass(1000);
        spendIs("an hour in between", chat, 0, 1, 100);
        chat.ends(1, -1);
        spendIs("back behind it", chat, 0, 1, 100);
    }

    /** "WENT_BACK 1 for good": neither does it stand again, nor does its amount come a second time. */
    private static void forGood() {
        MarkChat chat = approvedByALead(100);
        chat.spend(0, 0, 60);
        chat.mark(1, 0, -1);
        spendIs("went back", chat, 0, 1, 100);
        chat.mark(1, 0, 0);
        spendIs("approved again", chat, 0, 1, 100);
        chat.mark(1, 0, -1);
        spendIs("not approved again", chat, 0, 1, 100);
        chat.edit(0, 0);
        spendIs("edited then", chat, 0, 1, 100);
        chat.mark(1, 0, 0);
        Check.due("the number behind it", 1, () -> chat.spend(0, 0, 60));
        spendIs("another one stands", chat, 1, 0, 40);
        spendIs("another one stands", chat, 0, 1, 40);
    }

    /** "each spend that STANDS, by rising numbers": the first and the last of 60, on several messages. */
    private static void allOfThem() {
        MarkChat chat = approvedByALead(60);
        chat.post(0, 0, -1);
        chat.mark(1, 1, 0);
        for (int i = 0; i < 60; i++) {
            chat.spend(0, i % 2, 1);
        }
        spendIs("all stand", chat, 59, 0, 0);
        chat.edit(0, 1);
        spendIs("every second one went back", chat, 58, 0, 30);
        spendIs("every second one went back", chat, 59, 1, 30);
        chat.ends(1, 0);
        spendIs("the others went back", chat, 0, 1, 60);
        spendIs("the others went back", chat, 58, 1, 60);
    }

    /** "Tasks are numbered from 0, at most 60" */
    private static void tasksAtMost60() {
        MarkChat chat = Chats.withUsers(1);
        chat.post(0, 0, -1);
        Check.due("the first task", 0, () -> chat.task(0, 0, 0, 1));
        for (int i = 1; i < 59; i++) {
            chat.task(0, 0, 0, 1);
        }
        Check.due("the 60th task", 59, () -> chat.task(0, 0, 0, 1));
        Check.refused("a 61st task", Check.STATE, () -> chat.task(0, 0, 0, 1));
        for (int i = 0; i < 60; i++) {
            chat.done(0, i);
        }
        Check.refused("a 61st task, with all DONE", Check.STATE, () -> chat.task(0, 0, 0, 1));
        Check.due("the last one is DONE", 1, () -> chat.taskOf(59));
    }

    /** "it is OPEN 0, DONE 1, as its user tells, or DROPPED 2, as its message is edited while it is OPEN" */
    private static void droppedWhileOpen() {
        MarkChat chat = Chats.withUsers(1);
        chat.post(0, 0, -1);
        chat.post(0, 0, -1);
        chat.task(0, 0, 0, 0);
        chat.task(0, 0, 0, 0);
        chat.task(0, 1, 0, 0);
        Check.due("born OPEN", 0, () -> chat.taskOf(0));
        chat.pass(1);
        Check.due("late, and OPEN", 0, () -> chat.taskOf(0));
        chat.done(0, 1);
        Check.due("DONE", 1, () -> chat.taskOf(1));
        chat.edit(0, 0);
        Check.due("DROPPED", 2, () -> chat.taskOf(0));
        Check.due("DONE before the edit", 1, () -> chat.taskOf(1));
        Check.due("of a message that is not edited", 0, () -> chat.taskOf(2));
        Check.refused("DROPPED for good", Check.STATE, () -> chat.done(0, 0));
        chat.task(0, 0, 0, 0);
        Check.due("born behind the edit", 0, () -> chat.taskOf(3));
        chat.edit(0, 0);
        Check.due("of the next edit", 2, () -> chat.taskOf(3));
        Check.due("DROPPED stays", 2, () -> chat.taskOf(0));
    }

    /** "The next task of a user is that OPEN one with the earliest hour" */
    private static void theEarliestHour() {
        MarkChat chat = Chats.withUsers(1, 1);
        chat.post(0, 0, -1);
        chat.task(0, 0, 0, 11);
        chat.task(0, 0, 0, 10);
        chat.task(0, 0, 1, 9);
        Check.due("an hour earlier", 1, () -> chat.next(0, 0));
        chat.pass(5);
        chat.task(0, 0, 0, 4);
        Check.due("earlier, told later", 3, () -> chat.next(0, 0));
        chat.pass(100);
        Check.due("late ones too", 3, () -> chat.next(0, 0));
        chat.done(0, 3);
        Check.due("DONE is no next one", 1, () -> chat.next(0, 0));
        chat.edit(0, 0);
        Check.due("DROPPED is no next one", -1, () -> chat.next(0, 0));
    }

    /** "of several the lowest" */
    private static void ofSeveralTheLowest() {
        MarkChat chat = Chats.withUsers(1);
        chat.post(0, 0, -1);
        chat.task(0, 0, 0, 10);
        chat.task(0, 0, 0, 10);
        chat.pass(1);
        chat.task(0, 0, 0, 9);
        for (int i = 0; i < 3; i++) {
            int rank = i;
            Check.due("of the same hour, rank " + rank, rank, () -> chat.next(0, rank));
        }
        Check.due("no fourth one", -1, () -> chat.next(0, 3));
    }

    /** "A channel may be on hold. To archive a channel that is not archives ..." */
    private static void onHold() {
        MarkChat chat = Chats.withUsers(1);
        chat.post(0, 2, -1);
        chat.post(0, 3, -1);
        chat.pass(720);
        chat.hold(2);
        Check.refused("on hold", Check.STATE, () -> chat.archive(2));
        Check.due("on hold, not archived", 0, () -> chat.messageOf(0, 5));
        Check.due("another one is not on hold", 1, () -> chat.archive(3));
        chat.hold(2);
        Check.due("not on hold any more", 1, () -> chat.archive(2));
        chat.hold(2);
        Check.due("on hold, it stays archived", 1, () -> chat.messageOf(0, 5));
        Check.refused("on hold again", Check.STATE, () -> chat.archive(2));
        Check.due("on hold, a post", 2, () -> chat.post(0, 2, -1));
        Check.due("on hold, an edit", 1, () -> chat.edit(0, 2));
    }

    /** "each of its messages that is 720 hours old or older" */
    private static void hours720OldOrOlder() {
        int[] hours = {719, 720, 721};
        for (int i = 0; i < hours.length; i++) {
            int old = hours[i];
            MarkChat chat = Chats.withUsers(1);
            chat.pass(5);
            chat.post(0, 0, -1);
            chat.pass(old);
            Check.due(old + " hours old", i == 0 ? 0 : 1, () -> chat.archive(0));
            Check.due(old + " hours old, archived", i == 0 ? 0 : 1, () -> chat.messageOf(0, 5));
        }
        MarkChat edited = Chats.withUsers(1);
        edited.post(0, 0, -1);
        edited.pass(719);
        edited.edit(0, 0);
        edited.pass(1);
        Check.due("of the hour at which it was posted, not edited", 1, () -> edited.archive(0));
    }

    /** "of which no spend STANDS" */
    private static void noSpendStands() {
        MarkChat chat = approvedByALead(10);
        chat.spend(0, 0, 1);
        chat.spend(0, 0, 1);
        chat.post(0, 0, -1);
        chat.pass(720);
        Check.due("the one without spends", 1, () -> chat.archive(0));
        Check.due("a spend stands", 0, () -> chat.messageOf(0, 5));
        chat.mark(1, 0, -1);
        Check.due("all went back", 1, () -> chat.archive(0));
        Check.due("it is archived", 1, () -> chat.messageOf(0, 5));
    }

    /** "and no task is OPEN" */
    private static void noTaskIsOpen() {
        MarkChat chat = Chats.withUsers(1);
        chat.post(0, 0, -1);
        chat.post(0, 0, -1);
        chat.task(0, 0, 0, 1);
        chat.task(0, 0, 0, 1);
        chat.task(0, 1, 0, 1);
        chat.pass(720);
        Check.due("late, but OPEN", 0, () -> chat.archive(0));
        chat.done(0, 0);
        Check.due("one is OPEN", 0, () -> chat.archive(0));
        chat.done(0, 1);
        Check.due("all are DONE", 1, () -> chat.archive(0));
        chat.edit(0, 1);
        Check.due("DROPPED", 1, () -> chat.archive(0));
    }

    /** "and that has no reply that is not archived" */
    private static void noReplyThatIsNotArchived() {
        MarkChat chat = Chats.withUsers(1);
        chat.post(0, 0, -1);
        chat.pass(1);
        chat.post(0, 0, 0);
        chat.post(0, 0, 0);
        chat.task(0, 1, 0, 1);
        chat.pass(719);
        Check.due("young replies", 0, () -> chat.archive(0));
        chat.pass(1);
        Check.due("one reply of two", 1, () -> chat.archive(0));
        Check.due("the lower one has a task", 1, () -> chat.messageOf(2, 5));
        Check.due("the first one has a reply left", 0, () -> chat.messageOf(0, 5));
        chat.done(0, 0);
        Check.due("the other reply, and the first one", 2, () -> chat.archive(0));
    }

    /** "those with higher numbers first": a reply goes ahead of what it replies to, in one call. */
    private static void higherNumbersFirst() {
        MarkChat chat = Chats.withUsers(1);
        chat.post(0, 0, -1);
        chat.post(0, 1, -1);
        chat.post(0, 0, 0);
        chat.post(0, 0, 0);
        chat.post(0, 0, 2);
        chat.pass(720);
        Check.due("a thread in one call", 4, () -> chat.archive(0));
        Check.due("the thread's first", 1, () -> chat.messageOf(0, 5));
        Check.due("another channel's", 0, () -> chat.messageOf(1, 5));
    }

    /** "What is archived is neither edited, marked, nor replied to." */
    private static void archivedIsClosed() {
        MarkChat chat = approvedByALead(10);
        chat.pass(720);
        chat.archive(0);
        Check.refused("archived: edit", Check.STATE, () -> chat.edit(0, 0));
        Check.refused("archived: YES", Check.STATE, () -> chat.mark(1, 0, 0));
        Check.refused("archived: NO", Check.STATE, () -> chat.mark(1, 0, 1));
        Check.refused("archived: a mark off", Check.STATE, () -> chat.mark(1, 0, -1));
        Check.refused("archived: a reply", Check.STATE, () -> chat.post(0, 0, 0));
        Check.refused("archived: a spend", Check.STATE, () -> chat.spend(0, 0, 1));
        Check.refused("archived: a task", Check.STATE, () -> chat.task(0, 0, 0, 1));
        Check.due("archived: its marks", 1, () -> chat.messageOf(0, 6));
        Check.due("another post in the channel", 1, () -> chat.post(0, 0, -1));
        Check.due("a reply to that one", 2, () -> chat.post(0, 0, 1));
    }
}
