public final class ReadmeExample {
    public static void main(String[] args) {
        JobshellQuay shell = new JobshellQuay();

        type(shell, "f(){ local a;a=$1;echo $a{1,2}>>log;};f x;f y;cat<log|wc");
        System.out.println("fault " + shell.fault());       // fault -1: the text is a list
        System.out.println("status " + shell.run());        // status 0
        System.out.print(output(shell));                    // 12

        type(shell, "l* \"$a\" a$?");
        System.out.println("fields " + shell.fields());     // fields 3: log, an empty one, a0
        System.out.println((char) shell.fieldAt(0, 0));     // l
        System.out.println((char) shell.fieldAnew(2, 1));   // 0
        shell.clear();

        type(shell, "(cat<log;exit 3)&");
        shell.run();
        System.out.println("lines " + shell.job(0, 2));     // lines 2
        System.out.println("came out " + shell.pass(1));    // came out 1
        System.out.print(output(shell));                    // x1 x2
        System.out.println("status " + shell.front(0));     // status 3
        System.out.print(output(shell));                    // y1 y2

        type(shell, "echo 'a");
        System.out.println("fault " + shell.fault());       // fault 7: the ' has no end
    }

    private static void type(JobshellQuay shell, String text) {
        for (char c : text.toCharArray()) {
            shell.type(c);
        }
    }

    private static String output(JobshellQuay shell) {
        StringBuilder all = new StringBuilder();
        for (int i = 0; i < shell.size(); i++) {
            all.append(shell.charAt(i));
        }
        shell.flush();
        return all.toString();
    }
}
