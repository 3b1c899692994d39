/** All of an object that calls can tell, as a text; the object is spoilt by it. Some 300 calls. */
final class Standing {
    private static final int MACHINES = 4, SHEETS = 4, PARTS = 7, COUNTS = 5;

    private Standing() {
    }

    static String of(CarryShifts x) {
        StringBuilder all = new StringBuilder();
        machines(x, all);
        for (int s = 0; s < SHEETS; s++) {
            all.append("sheet ").append(x.load(s, 0, 0, 0)).append(' ').append(x.load(s, 1, 0, 0));
            all.append(' ').append(sizeOf(x, s)).append(' ').append(x.number(s)).append("; ");
        }
        all.append("tape ").append(x.text()).append(' ');
        machines(x, all);
        all.append("image ").append(x.back()).append(' ');
        machines(x, all);
        for (int s = 0; s < SHEETS; s++) {
            numbers(x, s, all);
        }
        return all.toString();
    }

    private static void machines(CarryShifts x, StringBuilder all) {
        for (int what = 0; what < COUNTS; what++) {
            all.append(x.count(what)).append(' ');
        }
        for (int m = 0; m < MACHINES; m++) {
            all.append('[');
            for (int what = 0; what < PARTS; what++) {
                all.append(x.of(m, what)).append(what < PARTS - 1 ? " " : "]");
            }
        }
    }

    /** Bits above the lowest are seen only by the machines that come by them. */
    private static void numbers(CarryShifts x, int sheet, StringBuilder all) {
        while (x.count(0) > 0 && x.drop() > 0) {
            all.append('.');
        }
        all.append("numbers ").append(x.load(sheet, 0, 0, 4)).append(' ').append(x.load(sheet, 1, 0, 4)).append(' ');
        for (int m = 0; m < MACHINES; m++) {
            for (int what = 0; what < 4; what++) {
                all.append(x.of(m, what)).append(' ');
            }
        }
    }

    /** How many items can be copied onto themselves; 0 of a sheet that is missing, too. */
    static int sizeOf(CarryShifts x, int sheet) {
        int size = 0;
        int beyond = 64;
        while (size < beyond) {
            int half = (size + beyond) / 2;
            if (x.copy(sheet, half, sheet, half, 1) == 1) {
                size = half + 1;
            } else {
                beyond = half;
            }
        }
        return size;
    }
}
