/** All that the questions tell about an object, as a text. */
final class Snapshot {
    private Snapshot() {
    }

    static String of(ForkWatch w) {
        StringBuilder text = new StringBuilder();
        text.append("error ").append(w.errorCode()).append(" at ").append(w.errorPosition());
        text.append(", refused ").append(w.refused());
        text.append(", blocks ").append(w.blocks()).append(", forked ").append(w.forkedPairs());
        for (int branch = 0; branch < w.branches(); branch++) {
            addBranch(text.append("\nbranch ").append(branch), w, branch);
        }
        for (int client = 0; client < w.clients(); client++) {
            addClient(text.append("\nclient ").append(client), w, client);
        }
        addRows(text, w);
        return text.toString();
    }

    private static void addBranch(StringBuilder text, ForkWatch w, int branch) {
        for (int at = 1; at <= w.length(branch); at++) {
            text.append(" |");
            for (int what = 0; what <= 6; what++) {
                text.append(' ').append(w.entry(branch, at, what));
            }
        }
    }

    /** Of the hashes the last one is enough, as the history changes as a whole only. */
    private static void addClient(StringBuilder text, ForkWatch w, int client) {
        text.append(" sees ").append(w.branchOf(client)).append(" receipt ").append(w.receipt(client, 0));
        text.append(' ').append(w.receipt(client, 1)).append(w.isSuspicious(client) ? " suspicious" : " calm");
        text.append(" finds ").append(w.wouldFind(client)).append(" vector");
        for (int other = 0; other < w.clients(); other++) {
            text.append(' ').append(w.vector(client, other));
        }
    }

    private static void addRows(StringBuilder text, ForkWatch w) {
        for (int index = 0; index < w.blames(); index++) {
            text.append("\nblame");
            for (int what = 0; what <= 5; what++) {
                text.append(' ').append(w.blame(index, what));
            }
        }
        for (int index = 0; index < w.posts(); index++) {
            text.append("\npost");
            for (int what = 0; what <= 3; what++) {
                text.append(' ').append(w.boardPost(index, what));
            }
        }
    }
}
