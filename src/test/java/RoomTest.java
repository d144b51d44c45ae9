/** Promises 35 to 37: motions that find room on tracks. */
public final class RoomTest {
    public static void main(String[] args) {
        packed();
        lessThanGreedy();
        placesAlone();
        clashes();
        wrong();
        Check.finish();
    }

    private static void placesDue(NoseDrum x, int slot, int fewest, int... want) {
        Check.due("fewest(" + slot + ")", x.fewest(slot), fewest);
        for (int i = 0; i < want.length; i++) {
            Check.due("place(" + slot + ", " + i + ")", x.place(slot, i), want[i]);
        }
        Check.due("place behind the last", x.place(slot, want.length), -2);
        Check.due("place(-1)", x.place(slot, -1), -2);
    }

    private static void packed() {
        NoseDrum x = Check.drumOf("drum steps 12 jam 5 slack 2;", 1);
        Check.numbers(x, 0, 0, 12);
        placesDue(x, 0, 1, 0);
        Check.numbers(x, 0, 0, 12, 12, 12, 12, 12, 12, 12, 12);
        placesDue(x, 0, 8, 0, 1, 2, 3, 4, 5, 6, 7);
        Check.numbers(x, 1, 3, 1, 1, 1, 1, 1, 1, 1, 1);
        placesDue(x, 1, 1, 0, 0, 0, 0, 0, 0, 0, 0);
        Check.numbers(x, 2, 1, 7, 5, 6, 6);
        placesDue(x, 2, 2, 0, 0, 1, 1);
        Check.numbers(x, 3, 2, 7, 6, 6);
        placesDue(x, 3, 2, 0, 1, 1);
    }

    /** First fit would need a track more, and the least row is not the one of first fit. */
    private static void lessThanGreedy() {
        NoseDrum x = Check.drumOf("drum steps 10 jam 5 slack 2;", 1);
        Check.numbers(x, 0, 0, 2, 5, 4, 7, 1, 3, 8);
        placesDue(x, 0, 3, 0, 1, 1, 2, 1, 2, 0);
        Check.numbers(x, 0, 0, 3, 3, 4, 7, 6, 3);
        placesDue(x, 0, 3, 0, 0, 0, 1, 2, 1);
        Check.numbers(x, 0, 0, 6, 6, 5, 5, 5, 4, 4, 5);
        placesDue(x, 0, 4, 0, 1, 2, 2, 3, 0, 1, 3);
    }

    /** place() answers for its own slot, whatever was asked of another one ahead of it, or nothing was. */
    private static void placesAlone() {
        NoseDrum x = Check.drumOf("drum steps 10 jam 5 slack 2;", 1);
        Check.numbers(x, 0, 0, 4, 4, 5, 5, 6, 6);
        Check.due("place(0, 5) first of all", x.place(0, 5), 1);
        Check.numbers(x, 1, 1, 10, 10, 10, 10, 10, 10);
        Check.due("fewest(1)", x.fewest(1), 6);
        Check.due("place(0, 3) behind that", x.place(0, 3), 2);
        Check.due("place(0, 4) behind that", x.place(0, 4), 0);
        Check.due("clash(1)", x.clash(1), 6);
        Check.due("place(1, 4) behind that", x.place(1, 4), 4);
        Check.due("place(0, 0) behind that", x.place(0, 0), 0);
    }

    private static void clashes() {
        NoseDrum x = Check.drumOf("drum steps 12 jam 5 slack 2;", 1);
        Check.numbers(x, 0, 0, 1);
        Check.due("clash of one", x.clash(0), 1);
        Check.numbers(x, 0, 0, 6, 6, 6);
        Check.due("clash of none", x.clash(0), 1);
        Check.numbers(x, 0, 0, 6, 7, 6);
        Check.due("clash of two", x.clash(0), 2);
        Check.numbers(x, 0, 0, 5, 7, 8, 12, 1, 7);
        Check.due("clash of four", x.clash(0), 4);
        Check.numbers(x, 0, 0, 12, 12, 12, 12, 12, 12, 12, 12);
        Check.due("clash of all", x.clash(0), 8);
    }

    private static void allDue(NoseDrum x, int slot, int want) {
        Check.due("fewest(" + slot + ")", x.fewest(slot), want);
        Check.due("place(" + slot + ", 0)", x.place(slot, 0), want);
        Check.due("place(" + slot + ", 99)", x.place(slot, 99), want);
        Check.due("clash(" + slot + ")", x.clash(slot), want);
    }

    private static void wrong() {
        NoseDrum x = new NoseDrum();
        Check.numbers(x, 0, 0, 1);
        allDue(x, 0, -2);
        allDue(x, 1, -2);
        x = Check.drumOf("drum steps 12 jam 5 slack 2;", 1);
        allDue(x, 0, -6);
        allDue(x, -1, -2);
        allDue(x, 4, -2);
        x.row(0, 0, 0);
        allDue(x, 0, -6);
        Check.numbers(x, 0, 0, 1, 1, 1, 1, 1, 1, 1, 1, 1);
        allDue(x, 0, -2);
        Check.numbers(x, 0, 0, 1, 0);
        allDue(x, 0, -2);
        Check.numbers(x, 0, 0, 1, 13);
        allDue(x, 0, -2);
        Check.numbers(x, 0, 0, 1, -1);
        allDue(x, 0, -2);
        Check.numbers(x, 0, 3, 1, 1L << 32 | 1);
        allDue(x, 0, -2);
        Check.numbers(x, 0, 2, 1, 1L << 32 | 1);
        Check.due("cut to four bytes", x.fewest(0), 1);
    }
}
