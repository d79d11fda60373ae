/** What a call answers, as a text: a number, or "throws." and the name of what it throws. */
final class Answer {
    interface Call {
        long answer();
    }

    private Answer() {
    }

    static String of(Call call) {
        try {
            return Long.toString(call.answer());
        } catch (RuntimeException e) {
            return "throws." + e.getClass().getSimpleName();
        }
    }
}
