/** What several tests do with an object before they look at it. */
final class Play {
    private Play() {
    }

    /** An object with a bird for each nest. */
    static FeatherShares withBirds(int... nests) {
        FeatherShares x = new FeatherShares();
        for (int nest : nests) {
            x.addBird(nest);
        }
        return x;
    }

    static void type(FeatherShares x, String text) {
        for (int i = 0; i < text.length(); i++) {
            x.append(text.charAt(i));
        }
    }

    static int run(FeatherShares x, String text) {
        type(x, text);
        return x.run();
    }

    /** The output line, read sign by sign up to the first index that is refused. */
    static String line(FeatherShares x) {
        StringBuilder line = new StringBuilder();
        for (int i = 0; i < 1000; i++) {
            try {
                line.append(x.outputAt(i));
            } catch (IndexOutOfBoundsException e) {
                return line.toString();
            }
        }
        return line.toString();
    }

    static String secretLine(FeatherShares x, int secret) {
        x.writeSecret(secret);
        return line(x);
    }

    static String nestsLine(FeatherShares x) {
        x.writeNests();
        return line(x);
    }

    static int undos(FeatherShares x) {
        int undone = 0;
        while (undone < 1000) {
            try {
                x.undo();
            } catch (IllegalStateException e) {
                return undone;
            }
            undone++;
        }
        return undone;
    }
}
