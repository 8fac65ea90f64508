/** All that an object answers from now on: two objects with the same story are, as far as one can see, in one state. */
final class Story {
    private Story() {
    }

    static String of(ShadowRegistry x) {
        return "errorAt " + x.errorAt() + behindError(x);
    }

    /** The story without the position of the latest error, which alone another teach() with an error changes. */
    static String behindError(ShadowRegistry x) {
        StringBuilder story = new StringBuilder();
        tellState(x, story);
        for (int days = 1; days <= 4; days++) {
            tell(story, "passDays", x.passDays(days));
            tellState(x, story);
        }
        tellTape(x, story);
        tell(story, "teach", x.teach());
        tell(story, "errorAt", x.errorAt());
        tellState(x, story);
        tell(story, "passDays", x.passDays(2));
        tellState(x, story);
        return story.toString();
    }

    private static void tellState(ShadowRegistry x, StringBuilder story) {
        tell(story, "digest", x.digest());
        tell(story, "lostAfter", x.lostAfter(1));
        tell(story, "lostAfter", x.lostAfter(30));
        tell(story, "daysUntilLight", x.daysUntilLight());
        tell(story, "fairestWall", x.fairestWall(2));
    }

    /** How many bytes the tape has: feed tells it, or, if it is too full for that, the greatest trim that is taken. */
    private static void tellTape(ShadowRegistry x, StringBuilder story) {
        String fed = Check.outcome(() -> x.feed(0x20202020, 0x0a0a0a0a, 0x20202020, 0x0a0a0a0a, 0x20202020));
        story.append(" feed ").append(fed);
        for (int n = 2000; fed.startsWith("java") && n > 1980; n--) {
            int bytes = n;
            String trimmed = Check.outcome(() -> x.trim(bytes));
            story.append(" trim ").append(trimmed);
            if (!trimmed.startsWith("java")) {
                break;
            }
        }
    }

    private static void tell(StringBuilder story, String call, long answer) {
        story.append(' ').append(call).append(' ').append(answer);
    }
}
