/** Whatever is heard twice of 2 to 6 candidates, likings and what to ask are as the model has them. */
public final class LikingRuns {
    private static final Due due = new Due();

    public static void main(String[] args) {
        for (int many = 2; many <= 6; many++) {
            for (int first = 0; first < many * many; first++) {
                for (int second = 0; second < many * many; second++) heardTwice(many, first, second);
            }
        }
        due.end();
    }

    private static void heardTwice(int many, int first, int second) {
        due.part(many + " candidates");
        StrangerVotes x = new StrangerVotes();
        Model model = new Model();
        String text = "c" + many + " 1 0;";
        for (int i = 0; i < text.length(); i++) both(x, model, "type", text.charAt(i), 0);
        both(x, model, "town", 0, 0);
        both(x, model, "hears", first / many, first % many);
        answers(x, model);
        both(x, model, "hears", second / many, second % many);
        answers(x, model);
    }

    private static void answers(StrangerVotes x, Model model) {
        both(x, model, "likings", 0, 0);
        both(x, model, "likings", 1, 0);
        both(x, model, "ask", 0, 0);
    }

    private static void both(StrangerVotes x, Model model, String call, int a, int b) {
        due.is(call + "(" + a + ", " + b + ")", Calls.answer(x, call, a, b, 0), model.answer(call, a, b, 0));
    }
}
