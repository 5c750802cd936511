/** All of a bridge that can be seen without changing it, as one text: two bridges that look alike are told apart by it. */
final class Looks {
    private Looks() {
    }

    /** Some 60 calls for two PLANS of 13 and 3 ARCHES. */
    static String of(MiddleBridge x) {
        StringBuilder all = new StringBuilder("count");
        for (int what = 0; what <= 8; what++) {
            all.append(' ').append(x.count(what));
        }
        for (int side = 0; side < 2; side++) {
            all.append("\nside ").append(side).append(':');
            for (int what = 0; what <= 6; what++) {
                all.append(' ').append(x.sideIs(side, what));
            }
            for (int arch = 1; arch <= x.sideIs(side, 0); arch++) {
                all.append(' ').append(x.archIs(side, arch, 0)).append('/').append(x.archIs(side, arch, 2));
            }
        }
        all.append("\ncoming:");
        for (int n = 1; n <= 9; n += 4) {
            for (int what : new int[] {0, 1, 2, 3, 10, 11}) {
                all.append(' ').append(x.tried(n, what));
            }
        }
        return all.toString();
    }
}
