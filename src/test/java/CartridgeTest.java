/** Promises 9, 10, 15 and 16: what cartridges hold. */
public final class CartridgeTest {
    private static final Checks CHECKS = new Checks();

    public static void main(String[] args) {
        promise9Lose();
        promise10Copy();
        promise10CopyOntoItself();
        promise15Room();
        promise16Item();
        CHECKS.finish();
    }

    private static FolderRounds twoLoaded() {
        FolderRounds x = new FolderRounds();
        x.edit(0, 4, 10, 0);
        x.erase(0, 6);
        CHECKS.due("loaded", x.visit(0, 0, 2), 2);
        return x;
    }

    private static void promise9Lose() {
        FolderRounds x = twoLoaded();
        CHECKS.due("lose", x.lose(0), 2);
        CHECKS.due("lose again", x.lose(0), 0);
        CHECKS.due("room", x.room(0), 100);
        CHECKS.rowLength(x, 0, 0);
        x.visit(0, 1, 0);
        CHECKS.due("siblings: nothing came", x.siblings(1, 4), 0);
        CHECKS.known(x, 1, 0, 4, 0, 0, 0, 0);
        CHECKS.noSuchElement("lose(3)", () -> x.lose(3));
        CHECKS.noSuchElement("lose(-1)", () -> x.lose(-1));
    }

    private static void promise10Copy() {
        FolderRounds x = twoLoaded();
        x.edit(2, 1, 30, 0);
        x.visit(1, 2, 1);
        x.copy(0, 1);
        CHECKS.rowLength(x, 1, 2);
        CHECKS.item(x, 1, 0, 4, 10, 1, 0, 0, 0);
        CHECKS.item(x, 1, 1, 6, -1, 1, 0, 0, 0);
        CHECKS.rowLength(x, 0, 2);
        // The two go their own ways from here.
        CHECKS.due("lose", x.lose(0), 2);
        CHECKS.rowLength(x, 1, 2);
        x.visit(1, 1, 0);
        CHECKS.sibling(x, 1, 4, 0, 10, 1, 0, 0, 0);
        CHECKS.due("marks", x.marks(1), 1);
        CHECKS.known(x, 1, 0, 6, 1, 0, 0, 0);
        CHECKS.known(x, 1, 2, 1, 0, 0, 0, 0);
        x.visit(2, 0, 2);
        x.copy(0, 2);
        CHECKS.rowLength(x, 2, 0);
        x.visit(2, 3, 0);
        CHECKS.known(x, 3, 0, 4, 0, 0, 0, 0);
        CHECKS.noSuchElement("copy(0, 3)", () -> x.copy(0, 3));
        CHECKS.noSuchElement("copy(3, 0)", () -> x.copy(3, 0));
        CHECKS.noSuchElement("copy(0, -1)", () -> x.copy(0, -1));
        CHECKS.noSuchElement("copy(-1, 0)", () -> x.copy(-1, 0));
        CHECKS.noSuchElement("copy(3, 3)", () -> x.copy(3, 3));
    }

    private static void promise10CopyOntoItself() {
        FolderRounds x = twoLoaded();
        x.copy(0, 0);
        CHECKS.rowLength(x, 0, 2);
        x.visit(0, 1, 0);
        CHECKS.due("siblings", x.siblings(1, 4), 1);
        CHECKS.known(x, 1, 0, 6, 1, 0, 0, 0);
    }

    private static void promise15Room() {
        FolderRounds x = twoLoaded();
        CHECKS.due("room", x.room(0), 100 - 18 - 8);
        CHECKS.due("room of another", x.room(1), 100);
        CHECKS.noSuchElement("room(3)", () -> x.room(3));
        CHECKS.noSuchElement("room(-1)", () -> x.room(-1));
        x.cut(0, 1, 0, 1);
        CHECKS.due("room, one gone", x.room(0), 92);
    }

    private static void promise16Item() {
        FolderRounds x = twoLoaded();
        x.edit(1, 4, 0, 0);
        x.visit(0, 1, 12);
        x.edit(1, 4, 7, 0);
        CHECKS.due("loaded", x.visit(0, 1, 12), 2);
        CHECKS.item(x, 0, 0, 6, -1, 1, 0, 0, 0);
        CHECKS.item(x, 0, 1, 4, 7, 1, 2, 0, 0);
        CHECKS.noSuchElement("item(0, 2, 0)", () -> x.item(0, 2, 0));
        CHECKS.noSuchElement("item(0, -1, 0)", () -> x.item(0, -1, 0));
        CHECKS.noSuchElement("item(0, 2, 6)", () -> x.item(0, 2, 6));
        CHECKS.noSuchElement("item(3, 0, 0)", () -> x.item(3, 0, 0));
        CHECKS.noSuchElement("item(-1, 0, -1)", () -> x.item(-1, 0, -1));
        CHECKS.outOfBounds("item(0, 0, 6)", () -> x.item(0, 0, 6));
        CHECKS.outOfBounds("item(0, 0, -1)", () -> x.item(0, 0, -1));
    }
}
