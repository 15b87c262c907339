/** Letters told as text: the sign and the pair ("A0", "u5"), x as "x". */
final class Letters {
    static final String SIGNS = "AaPpBbQqCcDEdeSsTUtu";

    private Letters() {
    }

    static int number(String name) {
        if (name.equals("x")) {
            return 0;
        }
        return 20 * (name.charAt(1) - '0') + SIGNS.indexOf(name.charAt(0)) + 1;
    }

    static String name(int letter) {
        if (letter == 0) {
            return "x";
        }
        if (letter < 0 || letter > 120) {
            return "?" + letter;
        }
        return SIGNS.charAt((letter - 1) % 20) + "" + (letter - 1) / 20;
    }

    static String production(TagTower x, int letter) {
        StringBuilder all = new StringBuilder();
        for (int i = 0; i < 10; i++) {
            int one = x.production(letter, i);
            if (one == TagTower.NONE) {
                break;
            }
            all.append(i == 0 ? "" : " ").append(name(one));
        }
        return all.toString();
    }

    static String word(TagTower x) {
        StringBuilder all = new StringBuilder();
        int length = x.length();
        for (int i = 0; i < length; i++) {
            all.append(i == 0 ? "" : " ").append(name(x.letter(i)));
        }
        return all.toString();
    }

    static void addAll(TagTower x, String word) {
        for (String name : word.split(" ")) {
            x.add(number(name));
        }
    }
}
