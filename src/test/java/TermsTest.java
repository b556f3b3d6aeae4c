/** The terms of users, messages, marks and approvals: each sentence there that names a bound has a test here. */
public final class TermsTest {
    private TermsTest() {
    }

    public static void main(String[] args) {
        atMost512Calls();
        hoursAreCountedFrom0();
        usersAtMost12();
        goneFromTheHourOn();
        untilAnotherOneIsTold();
        whoIsGoneDoesNothing();
        whoIsGoneMayBeTold();
        channels0To5();
        messagesAtMost80();
        versionIsOneMore();
        inPlaceOfTheMark();
        countsAsLongAsTheVersion();
        countsIfNotGone();
        countsIfNoGuest();
        noNoCounts();
        yesOfALeadOrChief();
        notItsAuthor();
        above1000();
        oneOfThemAChief();
        Check.end();
    }

    /** "An object is used for at most 512 calls": all of them are answered, the last one too. */
    private static void atMost512Calls() {
        MarkChat hours = new MarkChat();
        for (int call = 1; call < 512; call++) {
            hours.pass(1000);
        }
        Check.due("the 512th call, an hour", 512000, () -> hours.pass(1000));
        MarkChat cents = new MarkChat();
        for (int call = 1; call < 512; call++) {
            cents.budget(5, 1000000);
        }
        Check.due("the 512th call, a budget", 512000000, () -> cents.budget(5, 1000000));
        MarkChat versions = Chats.withUsers(1);
        versions.post(0, 0, -1);
        for (int call = 3; call < 512; call++) {
            versions.edit(0, 0);
        }
        Check.due("the 512th call, a version", 510, () -> versions.edit(0, 0));
        MarkChat marks = Chats.withUsers(2, 2);
        marks.post(0, 0, -1);
        for (int call = 4; call < 511; call++) {
            marks.mark(1, 0, 1);
        }
        Check.due("the 511th call, a mark", 1, () -> marks.mark(1, 0, 0));
        Check.due("the 512th call, found anew", true, () -> marks.isApproved(0, 1, true));
    }

    /** "Hours are counted from 0." */
    private static void hoursAreCountedFrom0() {
        MarkChat chat = Chats.withUsers(1);
        chat.post(0, 0, -1);
        Check.due("posted at once", 0, () -> chat.messageOf(0, 4));
        Check.due("gone at once", 0, () -> chat.ends(0, 0));
        Check.due("the first hour", 1, () -> chat.pass(1));
    }

    /** "Users are numbered from 0, at most 12" */
    private static void usersAtMost12() {
        MarkChat chat = new MarkChat();
        Check.due("the first user", 0, () -> chat.user(0));
        for (int i = 1; i < 11; i++) {
            chat.user(0);
        }
        Check.due("the 12th user", 11, () -> chat.user(0));
        Check.refused("a 13th user", Check.STATE, () -> chat.user(0));
        chat.ends(3, 0);
        Check.refused("a 13th user, with one of them gone", Check.STATE, () -> chat.user(0));
        Check.due("the 12th user may post", 0, () -> chat.post(11, 0, -1));
    }

    /** "may have an hour from which on the user is gone" */
    private static void goneFromTheHourOn() {
        MarkChat chat = Chats.withUsers(1);
        chat.post(0, 0, -1);
        chat.ends(0, 3);
        Check.due("told", 1, () -> chat.edit(0, 0));
        chat.pass(2);
        Check.due("the hour before", 2, () -> chat.edit(0, 0));
        chat.pass(1);
        Check.refused("the hour itself", Check.STATE, () -> chat.edit(0, 0));
        chat.pass(1);
        Check.refused("the hour behind it", Check.STATE, () -> chat.edit(0, 0));
        chat.pass(1000);
        Check.refused("long behind it", Check.STATE, () -> chat.edit(0, 0));
    }

    /** "until another one is told" */
    private static void untilAnotherOneIsTold() {
        MarkChat chat = Chats.withUsers(1);
        chat.post(0, 0, -1);
        chat.ends(0, 5);
        chat.ends(0, 2);
        chat.pass(2);
        Check.refused("an earlier one", Check.STATE, () -> chat.edit(0, 0));
        chat.ends(0, 1);
        Check.due("a later one", 1, () -> chat.edit(0, 0));
        chat.pass(1);
        Check.refused("the later one has come", Check.STATE, () -> chat.edit(0, 0));
        chat.ends(0, -1);
        Check.due("never", 2, () -> chat.edit(0, 0));
        chat.pass(1000);
        Check.due("never, in spite of those before", 3, () -> chat.edit(0, 0));
    }

    /** "Who is gone does nothing: a call of such a user is refused." */
    private static void whoIsGoneDoesNothing() {
        MarkChat chat = Chats.withUsers(1, 2);
        chat.budget(0, 100);
        chat.post(0, 0, -1);
        chat.mark(0, 0, 0);
        chat.mark(1, 0, 0);
        chat.task(1, 0, 0, 9);
        chat.ends(0, 1);
        chat.pass(1);
        Check.refused("gone: post", Check.STATE, () -> chat.post(0, 0, -1));
        Check.refused("gone: a reply", Check.STATE, () -> chat.post(0, 0, 0));
        Check.refused("gone: edit", Check.STATE, () -> chat.edit(0, 0));
        Check.refused("gone: YES", Check.STATE, () -> chat.mark(0, 0, 0));
        Check.refused("gone: NO", Check.STATE, () -> chat.mark(0, 0, 1));
        Check.refused("gone: a mark off", Check.STATE, () -> chat.mark(0, 0, -1));
        Check.refused("gone: spend", Check.STATE, () -> chat.spend(0, 0, 1));
        Check.refused("gone: task", Check.STATE, () -> chat.task(0, 0, 1, 1));
        Check.refused("gone: done", Check.STATE, () -> chat.done(0, 0));
        Check.due("who is not gone may spend", 0, () -> chat.spend(1, 0, 1));
        chat.ends(0, -1);
        Check.due("not gone: post", 1, () -> chat.post(0, 0, 0));
        Check.due("not gone: spend", 1, () -> chat.spend(0, 0, 1));
        Check.due("not gone: task", 1, () -> chat.task(0, 0, 1, 1));
        Check.due("not gone: done", 8, () -> chat.done(0, 0));
        Check.due("not gone: a mark off", 1, () -> chat.mark(0, 0, -1));
        Check.due("not gone: edit", 1, () -> chat.edit(0, 0));
    }

    /** What others do with a user who is gone is no call of that user. */
    private static void whoIsGoneMayBeTold() {
        MarkChat chat = Chats.withUsers(1, 2);
        chat.post(0, 0, -1);
        chat.ends(0, 0);
        Check.due("gone: a task for that user", 0, () -> chat.task(1, 0, 0, 4));
        Check.due("gone: the next task", 0, () -> chat.next(0, 0));
        Check.due("gone: a reply to that user's message", 1, () -> chat.post(1, 0, 0));
        Check.due("gone: a mark of that user's message", 1, () -> chat.mark(1, 0, 0));
        Check.due("gone: the role", 1, () -> chat.role(0, 3));
        Check.due("gone: the role that was told then", 3, () -> chat.role(0, 1));
        Check.due("gone: the end", 7, () -> chat.ends(0, 7));
        Check.due("gone no more: done", 4, () -> chat.done(0, 0));
    }

    /** "There are the channels 0 to 5, each with a budget, in cents, 0 at first." */
    private static void channels0To5() {
        MarkChat chat = Chats.withUsers(1);
        for (int i = 0; i < 6; i++) {
            int channel = i;
            Check.due("left at first in " + channel, 0, () -> chat.left(channel));
            Check.due("budget of " + channel, 10 + channel, () -> chat.budget(channel, 10 + channel));
            Check.due("post in " + channel, channel, () -> chat.post(0, channel, -1));
            Check.due("archive of " + channel, 0, () -> chat.archive(channel));
            Check.due("hold of " + channel, true, () -> chat.hold(channel));
        }
        for (int i = 0; i < 6; i++) {
            int channel = i;
            Check.due("left at last in " + channel, 10 + channel, () -> chat.left(channel));
        }
        int[] outside = {-1, 6, Integer.MIN_VALUE, Integer.MAX_VALUE};
        for (int i = 0; i < outside.length; i++) {
            int channel = outside[i];
            Check.refused("left in " + channel, Check.INDEX, () -> chat.left(channel));
            Check.refused("budget of " + channel, Check.INDEX, () -> chat.budget(channel, 1));
            Check.refused("post in " + channel, Check.INDEX, () -> chat.post(0, channel, -1));
            Check.refused("archive of " + channel, Check.INDEX, () -> chat.archive(channel));
            Check.refused("hold of " + channel, Check.INDEX, () -> chat.hold(channel));
        }
    }

    /** "Messages are numbered from 0, at most 80" */
    private static void messagesAtMost80() {
        MarkChat chat = Chats.withUsers(1);
        Check.due("the first message", 0, () -> chat.post(0, 0, -1));
        for (int i = 1; i < 79; i++) {
            chat.post(0, 0, i - 1);
        }
        Check.due("the 80th message", 79, () -> chat.post(0, 0, 78));
        Check.refused("an 81st message", Check.STATE, () -> chat.post(0, 0, -1));
        Check.refused("an 81st message, a reply to the last", Check.STATE, () -> chat.post(0, 0, 79));
        chat.pass(720);
        Check.due("all of one thread are archived", 80, () -> chat.archive(0));
        Check.refused("an 81st message, with all archived", Check.STATE, () -> chat.post(0, 0, -1));
    }

    /** "has a version, 0 at first; its author may edit it, and the version is one more then" */
    private static void versionIsOneMore() {
        MarkChat chat = Chats.withUsers(0, 3);
        chat.post(0, 0, -1);
        Check.due("the version at first", 0, () -> chat.messageOf(0, 3));
        Check.refused("edited by a CHIEF", Check.STATE, () -> chat.edit(1, 0));
        Check.due("the version of one who may not", 0, () -> chat.messageOf(0, 3));
        Check.due("edited by its author", 1, () -> chat.edit(0, 0));
        Check.due("the version then", 1, () -> chat.messageOf(0, 3));
        chat.post(0, 0, 0);
        Check.due("the version of the next message", 0, () -> chat.messageOf(1, 3));
    }

    /** "YES 0 or NO 1, in place of the mark that there is; or take the mark off" */
    private static void inPlaceOfTheMark() {
        MarkChat chat = Chats.withUsers(1, 2);
        chat.post(0, 0, -1);
        Check.due("YES", 1, () -> chat.mark(1, 0, 0));
        Check.due("YES in place of YES", 1, () -> chat.mark(1, 0, 0));
        Chats.approved("YES", true, chat, 0, 1);
        Check.due("NO in place of YES", 1, () -> chat.mark(1, 0, 1));
        Chats.approved("NO in place of YES", false, chat, 0, 1);
        Check.due("YES in place of NO", 1, () -> chat.mark(1, 0, 0));
        Chats.approved("YES in place of NO", true, chat, 0, 1);
        Check.due("off", 0, () -> chat.mark(1, 0, -1));
        Chats.approved("off", false, chat, 0, 1);
        Check.refused("off once more", Check.STATE, () -> chat.mark(1, 0, -1));
        Check.due("on again", 1, () -> chat.mark(1, 0, 0));
    }

    /** "A mark is of the version that the message has as it is told, and counts as long as that is the version" */
    private static void countsAsLongAsTheVersion() {
        MarkChat chat = Chats.withUsers(1, 2, 2);
        chat.post(0, 0, -1);
        chat.post(0, 0, -1);
        chat.mark(1, 0, 0);
        chat.mark(1, 1, 0);
        chat.mark(2, 1, 1);
        chat.edit(0, 0);
        Check.due("marks of the version before", 0, () -> chat.messageOf(0, 6));
        Chats.approved("YES of the version before", false, chat, 0, 1);
        Check.due("marks of the message that is not edited", 2, () -> chat.messageOf(1, 6));
        chat.edit(0, 1);
        chat.mark(1, 1, 0);
        Check.due("marks of the version now", 1, () -> chat.messageOf(1, 6));
        Chats.approved("NO of the version before", true, chat, 1, 1);
        Check.refused("off, of the version before", Check.STATE, () -> chat.mark(2, 1, -1));
    }

    /** "and its user is not gone" */
    private static void countsIfNotGone() {
        MarkChat chat = Chats.withUsers(1, 2);
        chat.post(0, 0, -1);
        chat.mark(1, 0, 0);
        chat.ends(1, 2);
        chat.pass(1);
        Check.due("the hour before", 1, () -> chat.messageOf(0, 6));
        Chats.approved("the hour before", true, chat, 0, 1);
        chat.pass(1);
        Check.due("the hour itself", 0, () -> chat.messageOf(0, 6));
        Chats.approved("the hour itself", false, chat, 0, 1);
        chat.ends(1, 1);
        Check.due("not gone any more", 1, () -> chat.messageOf(0, 6));
        Chats.approved("not gone any more", true, chat, 0, 1);
    }

    /** "and no GUEST": the least role that counts is MEMBER. */
    private static void countsIfNoGuest() {
        MarkChat chat = Chats.withUsers(1, 2, 0);
        chat.post(0, 0, -1);
        chat.mark(1, 0, 0);
        Check.due("a GUEST's NO", 1, () -> chat.mark(2, 0, 1));
        Chats.approved("a GUEST's NO", true, chat, 0, 1);
        chat.role(2, 1);
        Check.due("a MEMBER's NO", 2, () -> chat.messageOf(0, 6));
        Chats.approved("a MEMBER's NO", false, chat, 0, 1);
        chat.role(2, 0);
        Check.due("a GUEST's NO again", 1, () -> chat.messageOf(0, 6));
        chat.role(1, 0);
        Check.due("GUESTs' marks alone", 0, () -> chat.messageOf(0, 6));
        Chats.approved("a GUEST's YES", false, chat, 0, 1);
    }

    /** "if no NO counts, whoever told it" */
    private static void noNoCounts() {
        for (int role = 1; role < 4; role++) {
            MarkChat chat = Chats.withUsers(role, 3, 3, role);
            chat.post(0, 0, -1);
            chat.mark(1, 0, 0);
            chat.mark(2, 0, 0);
            Chats.approved("no NO", true, chat, 0, 1000000);
            chat.mark(0, 0, 1);
            Chats.approved("the author's NO, role " + role, false, chat, 0, 1);
            chat.mark(0, 0, 0);
            Chats.approved("the author's YES, role " + role, true, chat, 0, 1);
            chat.mark(3, 0, 1);
            Chats.approved("another one's NO, role " + role, false, chat, 0, 1);
            chat.mark(3, 0, -1);
            Chats.approved("another one's NO off, role " + role, true, chat, 0, 1);
        }
    }

    /** "and the YES of a LEAD or CHIEF ... does" */
    private static void yesOfALeadOrChief() {
        MarkChat chat = Chats.withUsers(1, 1);
        chat.post(0, 0, -1);
        Chats.approved("by nobody", false, chat, 0, 1);
        chat.mark(1, 0, 0);
        Chats.approved("by a MEMBER", false, chat, 0, 1);
        chat.role(1, 2);
        Chats.approved("by a LEAD", true, chat, 0, 1);
        chat.role(1, 3);
        Chats.approved("by a CHIEF", true, chat, 0, 1);
        chat.role(1, 0);
        Chats.approved("by a GUEST", false, chat, 0, 1);
    }

    /** "who is not its author" */
    private static void notItsAuthor() {
        MarkChat chat = Chats.withUsers(2, 3, 3);
        chat.post(0, 0, -1);
        chat.post(1, 0, -1);
        chat.mark(0, 0, 0);
        chat.mark(1, 1, 0);
        Chats.approved("by its author, a LEAD", false, chat, 0, 1);
        Chats.approved("by its author, a CHIEF", false, chat, 1, 1);
        chat.mark(1, 0, 0);
        Chats.approved("by its author and a CHIEF", true, chat, 0, 1000);
        Chats.approved("by its author and a CHIEF, for more", false, chat, 0, 1001);
        chat.mark(2, 0, 0);
        Chats.approved("by its author and two CHIEFs", true, chat, 0, 1001);
    }

    /** "above 1000 the YES of two such" */
    private static void above1000() {
        MarkChat chat = Chats.withUsers(1, 3, 3, 1);
        chat.post(0, 0, -1);
        chat.mark(1, 0, 0);
        Chats.approved("999 by one", true, chat, 0, 999);
        Chats.approved("1000 by one", true, chat, 0, 1000);
        Chats.approved("1001 by one", false, chat, 0, 1001);
        chat.mark(3, 0, 0);
        Chats.approved("1001 by one and a MEMBER", false, chat, 0, 1001);
        chat.mark(2, 0, 0);
        Chats.approved("1001 by two", true, chat, 0, 1001);
        Chats.approved("1000000 by two", true, chat, 0, 1000000);
    }

    /** "one of them a CHIEF at least" */
    private static void oneOfThemAChief() {
        MarkChat chat = Chats.withUsers(1, 2, 2, 2);
        chat.post(0, 0, -1);
        chat.mark(1, 0, 0);
        chat.mark(2, 0, 0);
        Chats.approved("1000 by two LEADs", true, chat, 0, 1000);
        Chats.approved("1001 by two LEADs", false, chat, 0, 1001);
        chat.mark(3, 0, 0);
        Chats.approved("1001 by three LEADs", false, chat, 0, 1001);
        chat.role(3, 3);
        Chats.approved("1001 by two LEADs and a CHIEF", true, chat, 0, 1001);
        chat.mark(2, 0, -1);
        Chats.approved("1001 by a LEAD and a CHIEF", true, chat, 0, 1001);
        chat.mark(1, 0, -1);
        Chats.approved("1001 by a CHIEF", false, chat, 0, 1001);
        for (int chief = 1; chief < 4; chief++) {
            MarkChat other = Chats.withUsers(1, 2, 2, 2);
            other.role(chief, 3);
            other.post(0, 0, -1);
            for (int user = 1; user < 4; user++) {
                other.mark(user, 0, 0);
            }
            Chats.approved("1001 by two LEADs and the CHIEF " + chief, true, other, 0, 1001);
            other.mark(chief, 0, -1);
            Chats.approved("1001 by two LEADs without the CHIEF " + chief, false, other, 0, 1001);
        }
    }
}
