/** Promises 13 to 16: players and their seats. */
public final class PlayersTest {
    public static void main(String[] args) {
        promise13AddPlayer();
        promise14SetAbsent();
        promise15SeatOf();
        promise16PlayerAt();
        Due.end();
    }

    private static void promise13AddPlayer() {
        GongCircle x = new GongCircle();
        Due.isIllegal("13 age 9", () -> x.addPlayer(9, 0, 0));
        Due.isIllegal("13 age 100", () -> x.addPlayer(100, 0, 0));
        Due.isIllegal("13 hearing -1", () -> x.addPlayer(10, -1, 0));
        Due.isIllegal("13 hearing 10", () -> x.addPlayer(10, 10, 0));
        Due.isIllegal("13 layers -1", () -> x.addPlayer(10, 0, -1));
        Due.isIllegal("13 layers 32", () -> x.addPlayer(10, 0, 32));
        Due.isOutside("13 none was added", () -> x.seatOf(0));
        Due.is("13 the least", 0, () -> x.addPlayer(10, 0, 0));
        Due.is("13 the most", 1, () -> x.addPlayer(99, 9, 31));
        for (int i = 2; i < 8; i++) {
            int want = i;
            Due.is("13 up to 8", want, () -> x.addPlayer(50, 5, 1));
        }
        Due.isUntimely("13 there are 8", () -> x.addPlayer(50, 5, 1));
        Due.isIllegal("13 both: out of range first", () -> x.addPlayer(5, 5, 1));
        Due.isOutside("13 no ninth player", () -> x.seatOf(8));
    }

    private static void promise14SetAbsent() {
        GongCircle x = new GongCircle();
        Due.isOutside("14 player 0", () -> x.setAbsent(0, true));
        x.addPlayer(50, 5, 1);
        x.addPlayer(40, 5, 1);
        Due.is("14 was not absent", false, () -> x.setAbsent(0, true));
        Due.is("14 was absent", true, () -> x.setAbsent(0, true));
        Due.is("14 no seat", -1, () -> x.seatOf(0));
        Due.is("14 the seat of the other one", 0, () -> x.seatOf(1));
        Due.is("14 was absent", true, () -> x.setAbsent(0, false));
        Due.is("14 was not absent", false, () -> x.setAbsent(0, false));
        Due.is("14 the seat is back", 0, () -> x.seatOf(0));
        Due.is("14 the other one has none", -1, () -> x.seatOf(1));
        Due.isOutside("14 player 2", () -> x.setAbsent(2, false));
        Due.isOutside("14 player -1", () -> x.setAbsent(-1, false));
    }

    private static void seats(GongCircle x, int... want) {
        for (int i = 0; i < want.length; i++) {
            int player = i;
            Due.is("15 seat of " + player, want[player], () -> x.seatOf(player));
        }
    }

    private static void promise15SeatOf() {
        GongCircle x = new GongCircle();
        x.addPlayer(30, 0, 31);
        seats(x, 0);
        x.addPlayer(30, 0, 31);
        seats(x, 0, 1);
        x.addPlayer(31, 0, 31);
        seats(x, 1, 2, 0);
        x.addPlayer(99, 0, 6);
        seats(x, 2, 3, 0, 1);
        x.addPlayer(10, 0, 15);
        seats(x, 2, 3, 0, 1, -1);
        x.addPlayer(20, 0, 16);
        seats(x, 2, 3, 0, 1, -1, 4);
        x.addPlayer(98, 0, 0);
        seats(x, 2, 3, 0, 1, -1, 4, -1);
        x.setAbsent(3, true);
        seats(x, 1, 2, 0, -1, 3, 4, -1);
        Due.isOutside("15 player 7", () -> x.seatOf(7));
        Due.isOutside("15 player -1", () -> x.seatOf(-1));
    }

    private static void promise16PlayerAt() {
        GongCircle x = new GongCircle();
        for (int layer = 0; layer < 5; layer++) {
            int a = layer;
            Due.isMissing("16 none at " + a, () -> x.playerAt(a));
        }
        x.addPlayer(20, 0, 16);
        x.addPlayer(30, 0, 24);
        Due.is("16 at 3", 1, () -> x.playerAt(3));
        Due.is("16 at 4", 0, () -> x.playerAt(4));
        Due.isMissing("16 at 0", () -> x.playerAt(0));
        x.setAbsent(1, true);
        Due.isMissing("16 at 3, absent", () -> x.playerAt(3));
        Due.isIllegal("16 layer 5", () -> x.playerAt(5));
        Due.isIllegal("16 layer -1", () -> x.playerAt(-1));
    }
}
