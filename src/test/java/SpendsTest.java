/** Promises 9 and 17: spends, and how they go back. */
public final class SpendsTest {
    private SpendsTest() {
    }

    public static void main(String[] args) {
        promise9Spend();
        promise9MostSpends();
        promise9GoesBackByMarks();
        promise9GoesBackByRolesAndEnds();
        promise9GoesBackByHours();
        promise17SpendOf();
        Check.end();
    }

    /** A CHIEF 0 who wrote the message 0 of the channel 0, LEADs 1 and 2, a CHIEF 3 and a GUEST 4. */
    private static MarkChat started(int cents) {
        MarkChat chat = new MarkChat();
        int[] roles = {3, 2, 2, 3, 0};
        for (int role : roles) {
            chat.user(role);
        }
        chat.budget(0, cents);
        chat.post(0, 0, -1);
        return chat;
    }

    private static void promise9Spend() {
        MarkChat chat = started(3000);
        Check.refused("not approved", Check.STATE, () -> chat.spend(0, 0, 1));
        chat.mark(1, 0, 0);
        Check.due("spend, by a GUEST", 0, () -> chat.spend(4, 0, 1000));
        Check.due("left", 2000, () -> chat.left(0));
        Check.refused("not approved for so much", Check.STATE, () -> chat.spend(0, 0, 1001));
        chat.mark(3, 0, 0);
        Check.refused("more than is left", Check.STATE, () -> chat.spend(0, 0, 2001));
        Check.due("all that is left", 1, () -> chat.spend(0, 0, 2000));
        Check.due("nothing left", 0, () -> chat.left(0));
        Check.refused("nothing to spend", Check.STATE, () -> chat.spend(0, 0, 1));
        Check.refused("spend(0, 0, 0)", Check.ARGUMENT, () -> chat.spend(0, 0, 0));
        Check.refused("spend(0, 0, 1000001)", Check.ARGUMENT, () -> chat.spend(0, 0, 1000001));
        Check.refused("spend(5, 0, 0)", Check.INDEX, () -> chat.spend(5, 0, 0));
        Check.refused("spend(-1, 0, 1)", Check.INDEX, () -> chat.spend(-1, 0, 1));
        Check.refused("spend(0, 1, 0)", Check.INDEX, () -> chat.spend(0, 1, 0));
        Check.refused("spend(0, -1, 1)", Check.INDEX, () -> chat.spend(0, -1, 1));
        Check.refused("refused spends have no number", Check.INDEX, () -> chat.spendOf(2, 0));
        MarkChat archived = started(3000);
        archived.mark(1, 0, 0);
        archived.pass(720);
        Check.due("archive", 1, () -> archived.archive(0));
        Check.due("approved", true, () -> archived.isApproved(0, 1, false));
        Check.refused("archived", Check.STATE, () -> archived.spend(0, 0, 1));
        Check.due("the most", 1000000, () -> mostOfAll());
    }

    private static int mostOfAll() {
        MarkChat chat = started(1000000);
        chat.mark(1, 0, 0);
        chat.mark(3, 0, 0);
        chat.spend(0, 0, 1000000);
        return chat.spendOf(0, 3);
    }

    private static void promise9MostSpends() {
        MarkChat chat = started(1000);
        chat.mark(1, 0, 0);
        for (int i = 0; i < 60; i++) {
            int number = i;
            Check.due("spend", number, () -> chat.spend(2, 0, 1));
        }
        Check.refused("a 61st spend", Check.STATE, () -> chat.spend(2, 0, 1));
        Check.refused("a 61st spend of nothing", Check.ARGUMENT, () -> chat.spend(2, 0, 0));
        Check.due("left", 940, () -> chat.left(0));
        chat.edit(0, 0);
        Check.due("all are back", 1000, () -> chat.left(0));
        Check.due("the last one", 1, () -> chat.spendOf(59, 0));
        chat.mark(1, 0, 0);
        Check.refused("numbers are not used again", Check.STATE, () -> chat.spend(2, 0, 1));
    }

    private static void promise9GoesBackByMarks() {
        MarkChat chat = started(5000);
        chat.mark(1, 0, 0);
        chat.mark(3, 0, 0);
        chat.spend(0, 0, 1000);
        chat.spend(0, 0, 1001);
        chat.mark(1, 0, 0);
        Check.due("the same mark again", 2999, () -> chat.left(0));
        chat.mark(3, 0, -1);
        Check.due("the small one stands", 0, () -> chat.spendOf(0, 0));
        Check.due("the great one went back", 1, () -> chat.spendOf(1, 0));
        Check.due("left", 4000, () -> chat.left(0));
        chat.mark(3, 0, 0);
        Check.due("for good", 1, () -> chat.spendOf(1, 0));
        Check.due("left", 4000, () -> chat.left(0));
        chat.mark(4, 0, 1);
        Check.due("a GUEST's NO", 0, () -> chat.spendOf(0, 0));
        chat.mark(0, 0, 1);
        Check.due("the author's NO", 1, () -> chat.spendOf(0, 0));
        Check.due("left", 5000, () -> chat.left(0));
        chat.mark(0, 0, 0);
        chat.spend(0, 0, 7);
        chat.edit(0, 0);
        Check.due("edited", 1, () -> chat.spendOf(2, 0));
        chat.mark(1, 0, 0);
        Check.due("edited, and approved again", 1, () -> chat.spendOf(2, 0));
        Check.due("of the version", 0, () -> chat.spendOf(2, 2));
        chat.spend(0, 0, 8);
        Check.due("of the next version", 1, () -> chat.spendOf(3, 2));
        Check.due("left", 4992, () -> chat.left(0));
        chat.edit(0, 0);
        Check.due("went back twice", 5000, () -> chat.left(0));
    }

    private static void promise9GoesBackByRolesAndEnds() {
        MarkChat chat = started(5000);
        chat.mark(1, 0, 0);
        chat.spend(0, 0, 10);
        chat.role(1, 3);
        Check.due("a CHIEF now", 0, () -> chat.spendOf(0, 0));
        chat.role(1, 1);
        Check.due("a MEMBER now", 1, () -> chat.spendOf(0, 0));
        chat.role(1, 2);
        chat.spend(0, 0, 20);
        chat.mark(4, 0, 1);
        Check.due("a GUEST's NO", 0, () -> chat.spendOf(1, 0));
        chat.role(4, 1);
        Check.due("no GUEST any more", 1, () -> chat.spendOf(1, 0));
        chat.role(4, 0);
        Check.due("for good", 1, () -> chat.spendOf(1, 0));
        Check.due("left", 5000, () -> chat.left(0));
        chat.spend(0, 0, 30);
        chat.ends(1, 0);
        Check.due("gone at once", 1, () -> chat.spendOf(2, 0));
        chat.ends(1, -1);
        Check.due("gone at once, and back", 1, () -> chat.spendOf(2, 0));
        chat.spend(0, 0, 40);
        chat.role(4, 1);
        chat.ends(4, 0);
        chat.spend(0, 0, 50);
        Check.due("left", 4950, () -> chat.left(0));
        chat.ends(4, 9);
        Check.due("a NO comes back", 1, () -> chat.spendOf(4, 0));
        Check.due("left", 5000, () -> chat.left(0));
    }

    private static void promise9GoesBackByHours() {
        MarkChat chat = started(5000);
        chat.post(3, 0, -1);
        chat.mark(1, 0, 0);
        chat.mark(1, 1, 0);
        chat.mark(2, 1, 0);
        chat.ends(1, 10);
        chat.spend(0, 0, 100);
        chat.spend(0, 1, 200);
        chat.pass(9);
        Check.due("an hour before", 0, () -> chat.spendOf(0, 0));
        chat.pass(1);
        Check.due("at the hour", 1, () -> chat.spendOf(0, 0));
        Check.due("by the other LEAD", 0, () -> chat.spendOf(1, 0));
        Check.due("left", 4800, () -> chat.left(0));
        chat.ends(2, 500);
        chat.mark(0, 1, 1);
        Check.due("NO", 1, () -> chat.spendOf(1, 0));
        chat.ends(0, 3);
        chat.pass(1000);
        Check.due("for good", 1, () -> chat.spendOf(1, 0));
        Check.due("left", 5000, () -> chat.left(0));
    }

    private static void promise17SpendOf() {
        MarkChat chat = started(5000);
        chat.post(0, 0, 0);
        chat.edit(0, 1);
        chat.edit(0, 1);
        chat.mark(1, 1, 0);
        chat.spend(4, 1, 900);
        int[] want = {0, 1, 2, 900};
        for (int i = 0; i < 4; i++) {
            int what = i;
            Check.due("spendOf(0, " + what + ")", want[what], () -> chat.spendOf(0, what));
        }
        chat.edit(0, 1);
        Check.due("spendOf: WENT_BACK", 1, () -> chat.spendOf(0, 0));
        Check.due("spendOf: the version then", 2, () -> chat.spendOf(0, 2));
        Check.due("spendOf: the amount then", 900, () -> chat.spendOf(0, 3));
        Check.refused("spendOf(0, 4)", Check.ARGUMENT, () -> chat.spendOf(0, 4));
        Check.refused("spendOf(0, -1)", Check.ARGUMENT, () -> chat.spendOf(0, -1));
        Check.refused("spendOf(1, 4)", Check.INDEX, () -> chat.spendOf(1, 4));
        Check.refused("spendOf(-1, 0)", Check.INDEX, () -> chat.spendOf(-1, 0));
    }
}
