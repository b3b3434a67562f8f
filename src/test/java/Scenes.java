/** Objects in states from which several tests begin. */
final class Scenes {
    private Scenes() {
    }

    static void write(RememberedCells x, String text) {
        x.clearText();
        for (int i = 0; i < text.length(); i++) {
            x.type(text.charAt(i));
        }
    }

    /** A new object in which the texts were played, each as one change; the last one stays as its text. */
    static RememberedCells played(String... texts) {
        RememberedCells x = new RememberedCells();
        for (String text : texts) {
            write(x, text);
            x.play();
        }
        return x;
    }

    static RememberedCells written(String text) {
        RememberedCells x = new RememberedCells();
        write(x, text);
        return x;
    }

    /** Has something of everything: answers, too great ones, a ring in f, a full history, and a faulty text. */
    static RememberedCells rich() {
        RememberedCells x = played("a=3;b=a+a;c=b+b;d=99999;e=d*d;f=f+a;");
        x.ask(2);
        x.ask(4);
        x.define(0, 4);
        x.bound(1);
        write(x, "a=6;b=7;c=d");
        return x;
    }

    /** Sixty characters that are ten whole definitions. */
    static RememberedCells withFullText() {
        return played("a=10;b=a+a;c=b+b;d=c+c;e=d+d;f=e+e;g=f+f;h=g+g;i=h+h;j=0001;");
    }

    /** A value, b to j formulas that are all remembered: no more can be, for ten formulas come to a ring. */
    static RememberedCells withNineAnswers() {
        RememberedCells x = played("a=1;b=a+a;c=b+a;d=c+a;e=d+a;f=e+a;g=f+a;h=g+a;i=h+a;j=i+a;");
        x.ask(9);
        return x;
    }
}
