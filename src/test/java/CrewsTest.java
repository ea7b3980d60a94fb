/** Promises 17 to 24: sums, crews, trips and which ASK to raise. */
public final class CrewsTest {
    private static final Check CHECK = new Check();
    private static final String FOUR = "seats 2;ask a;ask b;man m 1 a yes 3 b yes 1;man n 1 a no 3 b no 1;"
            + "man o 1 b yes 2;man p 1;";

    public static void main(String[] args) {
        sums();
        crews();
        trips();
        foesStayApart();
        easy();
        nobody();
        many();
        CHECK.finish();
    }

    private static void sums() {
        OpinionFerry x = Check.made(FOUR);
        CHECK.due("nobody", 0, x.sum(0));
        CHECK.due("m", 3, x.sum(1));
        CHECK.due("all", 0, x.sum(15));
        x.hire(0);
        CHECK.due("hired ones not", -3, x.sum(15));
        x.raise(1);
        CHECK.due("on the raised ASK", 1, x.sum(15));
        CHECK.dueThrow("no such one", () -> x.sum(16));
        CHECK.dueThrow("below 0", () -> x.sum(-1));
        CHECK.dueThrow("no ASKS", () -> Check.made("man m 1;").sum(1));
    }

    private static void crews() {
        OpinionFerry x = Check.made(FOUR);
        int[] crews = {3, 4, 8, 12};
        CHECK.due("how many", crews.length, x.crews(-1));
        for (int k = 0; k < crews.length; k++) {
            CHECK.due("crew " + k, crews[k], x.crews(k));
        }
        CHECK.due("none such", -1, x.crews(4));
        CHECK.due("none such", -1, x.crews(-2));
        CHECK.due("the largest, the least as bits", 3, x.largest());
        CHECK.due("nobody is stuck", 0, x.stuck());
        x.cross(12);
        CHECK.due("three on the far bank", 3, x.crews(-1));
        CHECK.due("from there", 12, x.crews(2));
        x.cross(4);
        x.turn(0, 0, 4);
        CHECK.due("o alone", 1, x.crews(-1));
        CHECK.due("o", 4, x.largest());
        CHECK.due("m and n are stuck", 3, x.stuck());
        x.turn(2, 0, 1);
        CHECK.due("no crew", 0, x.crews(-1));
        CHECK.due("no largest", -1, x.largest());
        CHECK.due("all are stuck there", 7, x.stuck());
        OpinionFerry y = Check.made("man m 1;man n 1;");
        CHECK.due("no ASKS", 0, y.crews(-1));
        CHECK.due("no ASKS", -1, y.crews(0));
        CHECK.due("no ASKS", -1, y.largest());
        CHECK.due("no ASKS", 3, y.stuck());
    }

    private static void trips() {
        OpinionFerry x = Check.made(FOUR);
        CHECK.due("trips by a", 5, x.trips(0));
        CHECK.due("first", 12, x.next());
        CHECK.due("trips by b", -1, x.trips(1));
        CHECK.due("no such ASK", -1, x.trips(2));
        CHECK.due("no such ASK", -1, x.trips(-1));
        CHECK.due("best", 0, x.best());
        x.raise(1);
        CHECK.due("as if it were raised", 5, x.trips(0));
        CHECK.due("by the raised one never", -1, x.next());
        x.hire(0);
        x.hire(1);
        x.hire(2);
        CHECK.due("who is hired stays so", 5, x.trips(1));
        CHECK.due("first of like ones", 3, x.next());
        CHECK.due("the first of like ones", 0, x.best());
        x.undo();
        x.undo();
        x.undo();
        x.raise(0);
        x.cross(12);
        CHECK.due("four more", 4, x.trips(0));
        CHECK.due("one comes back", 4, x.next());
        x.cross(4);
        x.cross(3);
        x.cross(8);
        x.cross(12);
        CHECK.due("all are over", 15, x.now(4));
        CHECK.due("none", 0, x.trips(0));
        CHECK.due("nobody", 0, x.next());
        CHECK.due("none by any: the first", 0, x.best());
        OpinionFerry y = Check.made("seats 1;slack 9;ask a;man m 1;man n 1;");
        CHECK.due("one seat for two", -1, y.trips(0));
        CHECK.due("one seat for two", -1, y.next());
        CHECK.due("one seat for two", -1, y.best());
        OpinionFerry z = Check.made("ask a;ask b;ask c;man m 1 a yes 1;man n 1 a yes 1 b yes 1;man o 1;");
        CHECK.due("by c alone all can go", 2, z.best());
        CHECK.due("in one trip", 1, z.trips(2));
        CHECK.due("by b never", -1, z.trips(1));
        // by a the three go together alone: p and q, p back, the three, q back, p and q
        OpinionFerry w = Check.made("seats 3;ask a;ask b;man m 1 a yes 1;man n 1 a yes 1;man o 1 a no 2;man p 1;man q 1;");
        CHECK.due("by a", 5, w.trips(0));
        CHECK.due("p and q first", 24, w.next());
        CHECK.due("by b", 3, w.trips(1));
        CHECK.due("the fewest", 1, w.best());
    }

    private static void foesStayApart() {
        OpinionFerry x = Check.made("slack 9;ask a;ask b;ask c;man m 1 b yes 5 c yes 5;man n 1 b yes 5 c no 5;man o 1;");
        CHECK.due("never both at once", 3, x.trips(0));
        CHECK.due("m and o, who brings the boat back", 5, x.next());
        CHECK.due("crews are without foes", 5, x.crews(-1));
        CHECK.due("3 is none", 4, x.crews(2));
        CHECK.due("nor is 7", -1, x.crews(5));
    }

    private static void easy() {
        OpinionFerry x = Check.made(FOUR);
        CHECK.due("by a, whatever the seats", 1, x.easy());
        x.cross(3);
        CHECK.due("m and n on the far bank", 3, x.easy());
        x.undo();
        x.hire(2);
        CHECK.due("hired ones not", 3, x.easy());
        CHECK.due("no ASKS", 0, Check.made("man m 1;").easy());
    }

    private static void nobody() {
        OpinionFerry x = Check.made("ask a;ask b;");
        CHECK.due("all none are over", 0, x.trips(1));
        CHECK.due("nobody goes", 0, x.next());
        CHECK.due("the first", 0, x.best());
        CHECK.due("nobody balances", 3, x.easy());
        CHECK.due("nobody is no crew", 0, x.crews(-1));
        OpinionFerry y = Check.made("man m 1;");
        CHECK.due("no ASKS", -1, y.next());
        CHECK.due("no ASKS", -1, y.best());
        CHECK.due("no ASKS", -1, y.trips(0));
    }

    private static void many() {
        StringBuilder text = new StringBuilder("seats 8;ask a;");
        for (char c = 'b'; c < 'l'; c++) {
            text.append("man ").append(c).append(" 1;");
        }
        OpinionFerry x = Check.made(text.toString());
        CHECK.due("all sets of 1 to 8", 1012, x.crews(-1));
        CHECK.due("the last", 1020, x.crews(1011));
        CHECK.due("eight", 255, x.largest());
        CHECK.due("three trips", 3, x.trips(0));
        CHECK.due("three at first, as one comes back for eight", 7, x.next());
    }
}
