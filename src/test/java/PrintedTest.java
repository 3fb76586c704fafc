import java.util.Set;
import java.util.TreeSet;

/** Promises 17 to 22: text, picture, call, danced, image, back. */
public final class PrintedTest {
    private static final Due due = new Due();
    private static final int NOT = SquareCaller.NOT;
    private static final int BAD = SquareCaller.BAD;
    private static final int STATE = SquareCaller.STATE;

    public static void main(String[] args) {
        text();
        textOfSeveralDances();
        latestCallIsTold();
        picture();
        call();
        danced();
        image();
        backAndOn();
        imageAlone();
        due.end("PrintedTest");
    }

    private static void printed(String text, String print) {
        SquareCaller x = Due.after(text);
        due.is("17: text(-1) of " + text, x.text(-1), print.length());
        due.is("17: text of " + text, Due.text(x), print);
        due.is("17: behind the text of " + text, x.text(print.length()), NOT);
    }

    private static void text() {
        printed("", "");
        printed("left", "left");
        printed("all left", "left");
        printed("all left,left", "left 2");
        printed("heads left,left", "heads left,left");
        printed("heads left,sides left,heads left", "heads left,sides left,heads left");
        printed("left,left,left", "left 3");
        printed("left 4", "left 4");
        printed("left 4,left", "left 4,left");
        printed("left 3,left 3", "left 4,left 2");
        printed("left 4,left 4,left", "left 4,left 4,left");
        printed("left,right,around,slide,trade 2,ring", "left,right,around,slide,trade 2,ring");
        printed("men forward,men back,ladies around,outers right,belles left,beaus left",
                "men forward,men back,ladies around,outers right");
        printed("belles left,centers right", "belles left");
        printed("beaus left", "beaus left");
        printed("heads forward,centers star,centers box", "heads forward,centers star,centers box");
        printed("heads forward,pass,box", "heads forward,pass");
        printed("heads fold", "heads fold");
        SquareCaller x = Due.after("left");
        for (int i : new int[] {-2, -100, Integer.MIN_VALUE}) {
            due.is("17: text(" + i + ")", x.text(i), BAD);
        }
        due.is("17: text(MAX)", x.text(Integer.MAX_VALUE), NOT);
    }

    private static void textOfSeveralDances() {
        SquareCaller x = Due.after("heads left");
        Due.dance(x, "heads left 2");
        due.is("17: the same side by side", Due.text(x), "heads left 3");
        Due.dance(x, "heads left 2");
        due.is("17: up to 4 at a time", Due.text(x), "heads left 4,heads left");
        x.undo();
        due.is("17: one undone", Due.text(x), "heads left 4");
        x.undo();
        due.is("17: two undone", Due.text(x), "heads left 3");
        // the print of a dance is danced again
        SquareCaller y = Due.after("heads forward,pass,left 3,left 2,centers slide");
        SquareCaller z = Due.after(Due.text(y));
        due.is("17: danced by its text", Due.picture(z), Due.picture(y));
    }

    /** Each call that five squares let be danced, as the latest: forward of all, whose number is 0, too. */
    private static void latestCallIsTold() {
        Set<String> told = new TreeSet<>();
        for (String before : new String[] {"around", "left", "heads forward", "heads forward,left", "men around"}) {
            for (String who : Model.WHO) {
                for (String figure : Model.FIGURES) {
                    String call = who.equals("all") ? figure : who + " " + figure;
                    SquareCaller x = Due.after(before);
                    if (!before.endsWith(call) && Due.dance(x, who + " " + figure) == 1) {
                        due.is("17: the latest call", Due.text(x), before + "," + call);
                        told.add(call);
                    }
                }
            }
        }
        due.is("17: calls told", told.size(), 63);
        due.is("17: forward of all is told", told.contains("forward") ? 1 : 0, 1);
    }

    private static void picture() {
        SquareCaller x = new SquareCaller();
        due.is("18: picture(-1)", x.picture(-1), 36);
        due.is("18: all bytes", Due.picture(x), "..6v5v..|7>....4<|8>....3<|..1^2^..|");
        due.is("18: picture(8)", x.picture(8), 10);
        due.is("18: picture(35)", x.picture(35), 10);
        due.is("18: picture(36)", x.picture(36), NOT);
        due.is("18: picture(MAX)", x.picture(Integer.MAX_VALUE), NOT);
        for (int i : new int[] {-2, -37, Integer.MIN_VALUE}) {
            due.is("18: picture(" + i + ")", x.picture(i), BAD);
        }
        due.is("18: after left,forward", Due.picture(Due.after("left,forward")),
                "7^..6>5>|8^......|......4v|1<2<..3v|");
    }

    private static void call() {
        SquareCaller y = Due.after("ring,men left,beaus left,outers right,slide");
        due.is("19: call(-1)", y.call(-1), 2);
        due.is("19: call(0)", y.call(0), 11);
        due.is("19: call(1)", y.call(1), 302);
        due.is("19: call(2)", y.call(2), NOT);
        due.is("19: call(MAX)", y.call(Integer.MAX_VALUE), NOT);
        due.is("19: call(-2)", y.call(-2), BAD);
        due.is("19: call(MIN)", y.call(Integer.MIN_VALUE), BAD);
        y.undo();
        due.is("19: call(1), undone", y.call(1), NOT);
        for (int who = 0; who < 9; who++) {
            for (int figure = 2; figure <= 4; figure++) {
                String told = Model.WHO.get(who) + " " + Model.FIGURES.get(figure);
                due.is("19: " + told, Due.after("heads forward," + told).call(1), 100 * who + figure);
            }
        }
        String[] figures = {"heads forward", "around,heads back", "left", "right", "around", "heads forward,pass",
            "heads forward,star", "heads forward,box", "slide", "trade", "fold", "ring"};
        for (int figure = 0; figure < 12; figure++) {
            SquareCaller z = Due.after(figures[figure]);
            due.is("19: the latest of " + figures[figure], z.call(z.call(-1) - 1) % 100, figure);
        }
    }

    private static void danced() {
        SquareCaller x = Due.after("left 3,heads left,right,ring");
        due.is("20: danced(2)", x.danced(2), 4);
        due.is("20: danced(3)", x.danced(3), 1);
        due.is("20: danced(11)", x.danced(11), 1);
        due.is("20: danced(0)", x.danced(0), 0);
        for (int figure : new int[] {-1, 12, Integer.MIN_VALUE, Integer.MAX_VALUE}) {
            due.is("20: danced(" + figure + ")", x.danced(figure), BAD);
        }
        x.undo();
        due.is("20: undone ones, too", x.danced(11), 1);
        x.redo();
        due.is("20: danced again anew", x.danced(11), 2);
        x.image();
        x.home();
        due.is("20: home changes nothing of it", x.danced(2), 4);
        x.back();
        due.is("20: nor does an image laid back", x.danced(2), 4);
        Due.dance(x, "centers left");
        due.is("20: what falls is not danced", x.danced(2), 4);
        Due.dance(x, "left,centers left,left");
        due.is("20: but what is danced ahead of it", x.danced(2), 5);
        Due.would(x, "left");
        Due.round(x, "left");
        x.way(-1);
        due.is("20: nor is what is thought", x.danced(2), 5);
        SquareCaller y = new SquareCaller();
        Due.dance(y, "heads forward,heads back,left,right,around 2,heads forward,pass,pass,star");
        due.is("20: forward", y.danced(0), 2);
        due.is("20: back", y.danced(1), 1);
        due.is("20: around", y.danced(4), 2);
        due.is("20: pass", y.danced(5), 1);
    }

    private static void image() {
        SquareCaller x = new SquareCaller();
        due.is("22: back without an image", x.back(), STATE);
        due.is("21: image of nothing danced", x.image(), 0);
        Due.dance(x, "left 3,heads forward");
        due.is("22: back", x.back(), 0);
        due.is("22: all are HOME", x.count(1), 8);
        Due.dance(x, "left 3,right");
        String kept = Due.picture(x);
        due.is("21: image", x.image(), 4);
        Due.dance(x, "ring,ring");
        due.is("22: back", x.back(), 4);
        due.is("22: the square", Due.picture(x), kept);
        due.is("22: the dance", Due.text(x), "left 3,right");
        due.is("22: back again", x.back(), 4);
        x.home();
        due.is("22: after home", x.back(), 4);
        due.is("22: the square after home", Due.picture(x), kept);
    }

    private static void backAndOn() {
        SquareCaller x = Due.after("left,right,around");
        x.undo();
        due.is("21: what was undone is not kept", x.image(), 2);
        x.undo();
        due.is("22: back", x.back(), 2);
        due.is("22: nothing to be danced again", x.redo(), STATE);
        due.is("22: it can be undone", x.undo(), 1);
        due.is("22: undone, the square", x.at(0, 1), 3);
        due.is("22: what is undone then can be danced again", x.redo(), 2);
        due.is("22: the text", Due.text(x), "left,right");
        Due.feed(x, "rin");
        x.back();
        due.is("22: the tape stays", Due.dance(x, "g"), 1);
    }

    private static void imageAlone() {
        SquareCaller x = Due.after("left 2");
        x.image();
        x.home();
        Due.dance(x, "ring 4,ring 2");
        due.is("21: the image does not change with the dance", x.back(), 2);
        due.is("21: its text", Due.text(x), "left 2");
        Due.dance(x, "right");
        due.is("21: nor after it was laid back", x.back(), 2);
        due.is("21: its text still", Due.text(x), "left 2");
        x.home();
        x.image();
        due.is("21: a later image takes its place", x.back(), 0);
    }
}
