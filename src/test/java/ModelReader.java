import java.math.BigInteger;
import java.util.ArrayList;
import java.util.List;
import java.util.regex.Matcher;
import java.util.regex.Pattern;

/** The text's grammar for the model: a making is a row of what each token must be. */
final class ModelReader {
    private static final String[][] SHAPES = {{"sheet", "0..3"}, {"add", "name", "name"}, {"less", "name", "name"},
        {"times", "name", "name"}, {"least", "name", "name"}, {"most", "name", "name"}, {"where", "name", "name"},
        {"way", "name", "name"}, {"if", "name", "name", "name"}, {"fill", "name", "number"},
        {"near", "1..3", "how", "name"}, {"zone", "how", "name", "name"}, {"flow", "name"}};

    private final List<String> tokens = new ArrayList<>();
    private final List<Integer> places = new ArrayList<>();
    private final List<Model.Making> makings = new ArrayList<>();
    private final List<String> names = new ArrayList<>();
    private int next = 0;

    ModelReader(String text) {
        Matcher m = Pattern.compile("[a-z]+|[0-9]+|[^ ]", Pattern.DOTALL).matcher(text);
        while (m.find()) {
            tokens.add(m.group());
            places.add(m.start());
        }
        tokens.add("");
        places.add(text.length());
    }

    List<Model.Making> makings() {
        return makings;
    }

    int fault() {
        return isText() ? -1 : places.get(next);
    }

    private boolean isText() {
        do {
            String name = tokens.get(next);
            if (!name.matches("[a-z]") || names.contains(name) || names.size() == 10) {
                return false;
            }
            next++;
            if (!isThere("=") || !isMaking()) {
                return false;
            }
            names.add(name);
        } while (isThere(";"));
        return tokens.get(next).isEmpty();
    }

    private boolean isThere(String sign) {
        if (tokens.get(next).equals(sign)) {
            next++;
            return true;
        }
        return false;
    }

    private boolean isMaking() {
        for (String[] shape : SHAPES) {
            if (isThere(shape[0])) {
                return isShape(shape);
            }
        }
        return false;
    }

    private boolean isShape(String[] shape) {
        int number = 0;
        String how = "";
        List<Integer> named = new ArrayList<>();
        for (int i = 1; i < shape.length; i++) {
            String token = tokens.get(next);
            switch (shape[i]) {
                case "name":
                    if (!names.contains(token)) {
                        return false;
                    }
                    named.add(names.indexOf(token));
                    break;
                case "how":
                    if (!List.of("sum", "most", "least", "count").contains(token)) {
                        return false;
                    }
                    how = token;
                    break;
                case "number":
                    boolean below = isThere("-");
                    if (!isNumber(0, 1000000)) {
                        return false;
                    }
                    number = Integer.parseInt(tokens.get(next)) * (below ? -1 : 1);
                    break;
                default:
                    if (!isNumber(shape[i].charAt(0) - '0', 3)) {
                        return false;
                    }
                    number = Integer.parseInt(token);
                    break;
            }
            next++;
        }
        makings.add(new Model.Making(shape[0], number, how, named));
        return true;
    }

    private boolean isNumber(int least, int most) {
        String token = tokens.get(next);
        return token.matches("[0-9]+") && new BigInteger(token).compareTo(BigInteger.valueOf(least)) >= 0
            && new BigInteger(token).compareTo(BigInteger.valueOf(most)) <= 0;
    }
}
