/** What several tests do with an object before they look at it. */
final class Play {
    private Play() {
    }

    /** An object with a bird for each nest. */
    static FeatherShares withBirds(int... nests) {
        FeatherShares x = new FeatherShares();
        for (int nest : nests) {
            x.addBird(nest);
        }
        return x;
    }

    /**
     * An object in which a refused call finds all that it could change by mistake. It has the birds 0 to 4 and the
     * secrets 1 (threshold 3; bird 1 lost its share, that of bird 3 is spoiled), 3 (threshold 4, held by 1, 2 and 3)
     * and 4 (threshold 1, held by all); 2 is forgotten, 5 is the next number. A state is saved, 8 calls can be undone,
     * an error position, a failed command, a line and a text are there.
     */
    static FeatherShares busy() {
        FeatherShares x = withBirds(0, 1, 1, 3, 2);
        x.split(42, 3, 5);
        x.split(7, 2, 9);
        x.split(96, 4, 96);
        x.forget(2);
        x.lose(0, 3);
        x.save();
        type(x, "bird");
        Calls.answer(x, "run");
        type(x, "bird 0;bird 4");
        Calls.answer(x, "run");
        x.split(5, 1, 0);
        x.lose(4, 3);
        x.lose(1, 1);
        x.spoil(3, 1, 10);
        x.writeSecret(1);
        type(x, "bird 1;lose 2 1");
        return x;
    }

    /** Three birds and three secrets more than the busy object: there is room for none. */
    static FeatherShares crowded() {
        FeatherShares x = busy();
        for (int nest = 0; nest < 3; nest++) {
            x.addBird(nest);
        }
        for (int threshold = 1; threshold <= 3; threshold++) {
            x.split(9, threshold, 7);
        }
        return x;
    }

    /** Eight birds in the nests 0 and 3 by turns, and the secret 1 with the value 42 and so many holders, the first. */
    static FeatherShares held(int threshold, int holders) {
        FeatherShares x = withBirds(0, 3, 0, 3, 0, 3, 0, 3);
        x.split(42, threshold, 5);
        for (int bird = holders; bird < 8; bird++) {
            x.lose(bird, 1);
        }
        return x;
    }

    static void type(FeatherShares x, String text) {
        for (int i = 0; i < text.length(); i++) {
            x.append(text.charAt(i));
        }
    }

    static int run(FeatherShares x, String text) {
        type(x, text);
        return x.run();
    }

    /** The output line, read sign by sign up to the first index that is refused. */
    static String line(FeatherShares x) {
        StringBuilder line = new StringBuilder();
        for (int i = 0; i < 1000; i++) {
            try {
                line.append(x.outputAt(i));
            } catch (IndexOutOfBoundsException e) {
                return line.toString();
            }
        }
        return line.toString();
    }

    static String secretLine(FeatherShares x, int secret) {
        x.writeSecret(secret);
        return line(x);
    }

    static String nestsLine(FeatherShares x) {
        x.writeNests();
        return line(x);
    }

    static int undos(FeatherShares x) {
        int undone = 0;
        while (undone < 1000) {
            try {
                x.undo();
            } catch (IllegalStateException e) {
                return undone;
            }
            undone++;
        }
        return undone;
    }
}
