import java.util.List;

/** The methods of the face, and which range the document gives to each of their parameters. */
final class Calls {
    /** Numbers without a range. */
    static final int[] ANY = {};

    static final class Kind {
        final String name;
        /** A letter for each parameter; see range(). */
        final String kinds;

        private Kind(String written) {
            int blank = written.indexOf(' ');
            name = blank < 0 ? written : written.substring(0, blank);
            kinds = blank < 0 ? "" : written.substring(blank + 1);
        }
    }

    static final List<Kind> ALL = List.of(
            "feed rn", "feedRow rfsm", "feedLowFirst rn", "feedHighFirst rn", "feedOften rno", "feedText rt",
            "feedBackward rt", "feedPart rtee", "feedCheck rr", "begin r", "beginAll", "knock",
            "type tn", "typeRow tfsm", "typeCheck tr", "flip tpb", "set tpn", "drop td", "wipe t", "join ttt",
            "change ttt", "copy tt",
            "low r", "high r", "hex r", "check r", "hasBit rB", "byteOf rP", "ones r", "had r", "areLike rr",
            "apart rr", "compare rr",
            "length t", "byteAt tp", "bytes t", "hexOf t", "lowOf t", "isCheckOf tr", "hexFlipped tpb", "flips t",
            "findFlip tr", "evenOnes t", "apartOf tt", "hexJoined tt", "house w", "isSound", "digest")
            .stream().map(Kind::new).toList();

    private Calls() {
    }

    /** The least and the greatest number that a parameter may be; some depend on the length of the text before. */
    static int[] range(char kind, int length) {
        switch (kind) {
            case 'r':
            case 'P':
                return new int[] {0, 3};
            case 't':
                return new int[] {0, 5};
            case 'f':
                return new int[] {-999, 999};
            case 's':
                return new int[] {-99, 99};
            case 'm':
                return new int[] {1, 24};
            case 'o':
                return new int[] {1, 99};
            case 'd':
                return new int[] {1, length};
            case 'e':
                return new int[] {0, length};
            case 'p':
                return new int[] {0, length - 1};
            case 'b':
                return new int[] {0, 7};
            case 'B':
                return new int[] {0, 31};
            case 'w':
                return new int[] {0, 6};
            default:
                return ANY;
        }
    }
}
