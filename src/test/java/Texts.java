/** Brings a TEXT to THE TAPE, eight bytes at a time. */
final class Texts {
    private static final int MOST_BYTES = 60;

    private Texts() {
    }

    /** How many bytes THE TAPE has then, or the ERROR of the first feed that had one. */
    static int feed(NeedleLine line, String text) {
        int answer = line.count(4);
        Due.isTrue(text + " has its place on THE TAPE", answer + text.length() <= MOST_BYTES);
        for (int at = 0; at < text.length() && answer >= 0; at += 8) {
            int n = Math.min(8, text.length() - at);
            answer = line.feed(word(text.substring(at, at + n)), n);
        }
        return answer;
    }

    static int told(NeedleLine line, int use, String text) {
        feed(line, text);
        return line.text(use);
    }

    private static long word(String eight) {
        long word = 0;
        for (int i = eight.length() - 1; i >= 0; i--) {
            word = word << 8 | eight.charAt(i) & 255;
        }
        return word;
    }
}
