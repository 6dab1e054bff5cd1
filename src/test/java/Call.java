/** One call with its arguments; those that the call does not take are 0 and false. */
record Call(String name, int a, int b, boolean there) {
    static Call of(String name, int... numbers) {
        return new Call(name, numbers.length > 0 ? numbers[0] : 0, numbers.length > 1 ? numbers[1] : 0,
                numbers.length > 2 && numbers[2] == 1);
    }

    /** A call as it is written in the issues: put(0, 5, true). */
    static Call parse(String text) {
        String inside = text.substring(text.indexOf('(') + 1, text.lastIndexOf(')'));
        String[] words = inside.isBlank() ? new String[0] : inside.split(",");
        int[] numbers = new int[words.length];
        for (int i = 0; i < words.length; i++) {
            String word = words[i].strip();
            numbers[i] = word.equals("true") ? 1 : word.equals("false") ? 0 : Integer.parseInt(word);
        }
        return of(text.substring(0, text.indexOf('(')), numbers);
    }

    String on(VersionTrans object) {
        try {
            return switch (name) {
                case "begin" -> "" + object.begin();
                case "look" -> "" + object.look(a);
                case "put" -> "" + object.put(a, b, there);
                case "note" -> "" + object.note(a, b);
                case "read" -> "" + object.read(a, b);
                case "told" -> "" + object.told(a, b);
                case "commit" -> "" + object.commit(a);
                case "abort" -> "" + object.abort(a);
                case "pin" -> "" + object.pin(a);
                case "unpin" -> "" + object.unpin(a);
                case "free" -> "" + object.free();
                case "rows" -> "" + object.rows();
                case "latest" -> "" + object.latest();
                case "least" -> "" + object.least();
                case "state" -> "" + object.state(a);
                case "waits" -> "" + object.waits(a);
                case "ring" -> "" + object.ring(a);
                case "conflicts" -> "" + object.conflicts(a, b);
                default -> "no such call";
            };
        } catch (RuntimeException e) {
            return "throws." + e.getClass().getSimpleName();
        }
    }
}
