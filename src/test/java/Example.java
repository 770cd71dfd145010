/** The example of README.md: asks for sums by groups and prints them. */
final class Example {
    public static void main(String[] args) {
        QueryForge forge = new QueryForge();
        ask(forge, "create pay(who text,amount int)");
        ask(forge, "insert pay('ann',5)");
        ask(forge, "insert pay('bob',-2)");
        ask(forge, "insert pay('ann',7)");
        ask(forge, "insert pay(null,null)");
        int rows = ask(forge, "select who,count(amount),sum(amount) from pay where amount<9 group who order 3");
        for (int row = 0; row < rows; row++) {
            System.out.println(text(forge.value(row, 0)) + " " + forge.value(row, 1) + " " + forge.value(row, 2));
        }
        System.out.println(ask(forge, "select amount/0 from pay"));
        System.out.println(forge.rows() + " rows of " + forge.items() + " items");
    }

    static int ask(QueryForge forge, String statement) {
        for (char sign : statement.toCharArray()) {
            forge.unit(sign);
        }
        return forge.act();
    }

    static String text(int value) {
        StringBuilder text = new StringBuilder();
        for (int shift = 24; shift >= 0 && (value >> shift & 255) != 0; shift -= 8) {
            text.append((char) (value >> shift & 255));
        }
        return text.toString();
    }
}
