/** Brings texts into a base, eight characters a call. */
final class Texts {
    private Texts() {
    }

    static long packed(String piece) {
        long s = 0;
        for (int i = 0; i < piece.length(); i++) {
            s |= (long) piece.charAt(i) << (8 * i);
        }
        return s;
    }

    static boolean draft(ObjectBase x, String text) {
        boolean all = x.draft(0);
        for (int i = 0; i < text.length(); i += 8) {
            all &= x.draft(packed(text.substring(i, Math.min(text.length(), i + 8))));
        }
        return all;
    }

    static int prepare(ObjectBase x, String text) {
        if (!draft(x, text)) {
            throw new IllegalArgumentException("no draft: " + text);
        }
        return x.prepare();
    }
}
