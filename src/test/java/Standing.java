import java.util.List;
import java.util.Set;

/**
 * What can stand next in a TEXT, told TOKEN by TOKEN and without a descent: from what stood last, and from the
 * row of what is open. For holding the class's FAULTS against another way of finding them.
 */
final class Standing {
    private static final List<String> KEYS = List.of("shows", "moves", "minds");
    private static final Set<String> NAMES = Set.of("place", "height", "day", "number", "far", "side");
    private static final int OPEN = 5;

    private enum Next { KEY, NOT, ONE, MORE }

    private int part = 0;
    private Next next = Next.KEY;
    // ( n (for not) and - as they were opened, the last one innermost.
    private final StringBuilder open = new StringBuilder();
    // For the part and each ( that is open: whether a < or = has stood in the NOT that is read there.
    private final StringBuilder compared = new StringBuilder();

    private Standing() {
    }

    /** The place of the FAULT, or -1. */
    static int fault(String text) {
        Standing standing = new Standing();
        int at = 0;
        while (at < text.length()) {
            int end = end(text, at);
            String token = text.substring(at, end);
            if (!isBlank(text.charAt(at)) && !standing.takes(token)) {
                return at;
            }
            at = end;
        }
        return standing.part == KEYS.size() ? -1 : text.length();
    }

    private static int end(String text, int at) {
        int end = at;
        while (end < text.length() && sort(text.charAt(end)) != 0 && sort(text.charAt(end)) == sort(text.charAt(at))) {
            end++;
        }
        return Math.max(end, at + 1);
    }

    private static boolean isBlank(char letter) {
        return letter == ' ' || letter == '\n';
    }

    /** Letters and digits go together, each with its own; any other byte stands by itself. */
    private static int sort(char letter) {
        return letter >= 'a' && letter <= 'z' ? 1 : letter >= '0' && letter <= '9' ? 2 : 0;
    }

    private boolean takes(String token) {
        switch (next) {
            case KEY:
                return part < KEYS.size() && token.equals(KEYS.get(part)) && begins();
            case MORE:
                return goesOn(token);
            default:
                return opens(token) || isEnd(token);
        }
    }

    private boolean begins() {
        open.setLength(0);
        compared.setLength(0);
        compared.append('.');
        next = Next.NOT;
        return true;
    }

    private boolean opens(String token) {
        boolean is = token.equals("(") || token.equals("-") || token.equals("not") && next == Next.NOT;
        if (!is || open.length() == OPEN) {
            return false;
        }
        open.append(token.charAt(0));
        if (token.equals("(")) {
            compared.append('.');
        }
        next = token.equals("-") ? Next.ONE : Next.NOT;
        return true;
    }

    private boolean isEnd(String token) {
        if (!NAMES.contains(token) && !token.matches("[0-9]{1,4}")) {
            return false;
        }
        oneEnds();
        return true;
    }

    private void oneEnds() {
        close('-');
        next = Next.MORE;
    }

    private void close(char what) {
        while (open.length() > 0 && open.charAt(open.length() - 1) == what) {
            open.setLength(open.length() - 1);
        }
    }

    private boolean goesOn(String token) {
        switch (token) {
            case "*": case "+": case "-":
                next = Next.ONE;
                return true;
            case "<": case "=":
                next = Next.ONE;
                return compares();
            case "and": case "or":
                close('n');
                compared.setCharAt(compared.length() - 1, '.');
                next = Next.NOT;
                return true;
            case ")":
                return closes();
            case ";":
                part++;
                next = Next.KEY;
                return compared.length() == 1;
            default:
                return false;
        }
    }

    private boolean compares() {
        int last = compared.length() - 1;
        boolean first = compared.charAt(last) == '.';
        compared.setCharAt(last, '!');
        return first;
    }

    private boolean closes() {
        if (compared.length() == 1) {
            return false;
        }
        close('n');
        open.setLength(open.length() - 1);
        compared.setLength(compared.length() - 1);
        oneEnds();
        return true;
    }
}
