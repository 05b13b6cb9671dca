/** Promises 5 to 10: numbers, signs, samples, what became of practice, settings. */
public final class ThereIsTest {
    public static void main(String[] args) {
        numbers();
        practiceNumbers();
        signs();
        order();
        samples();
        signsOfSamples();
        settings();
        Check.end();
    }

    private static void dueAbout(String what, RuledStrokes x, int... want) {
        for (int i = 0; i < want.length; i++) {
            Check.due(what + ": about(" + i + ")", x.about(i), want[i]);
        }
    }

    private static void numbers() {
        RuledStrokes x = new RuledStrokes();
        dueAbout("new", x, 0, 0, 0, 0, 0, 0, 0, 0);
        x.point(5, 5);
        dueAbout("one point", x, 1, 1, 1, 0, 0);
        x.point(25, 5);
        dueAbout("two points", x, 1, 2, 1, 2, 0);
        x.lift();
        dueAbout("lifted", x, 1, 2, 0, 2, 0);
        x.point(5, 5);
        dueAbout("second stroke", x, 2, 3, 1, 3, 0);
        x.learn(1);
        dueAbout("learned", x, 0, 0, 0, 0, 1);
        Check.refused("about(-1)", Check.ARGUMENT, () -> x.about(-1));
        Check.refused("about(8)", Check.ARGUMENT, () -> x.about(8));
        Check.refused("about(max)", Check.ARGUMENT, () -> x.about(Integer.MAX_VALUE));
    }

    private static void practiceNumbers() {
        RuledStrokes x = new RuledStrokes();
        Check.draw(x, "5,5");
        x.practise(3);
        Check.learn(x, 3, "5,5-45,5");
        for (int i = 0; i < 3; i++) {
            Check.draw(x, "5,5-45,5");
            x.practise(3);
        }
        for (int i = 0; i < 2; i++) {
            Check.draw(x, "5,5-45,5");
            x.practise(9);
        }
        dueAbout("practised", x, 0, 0, 0, 0, 1, 6, 3, 1);
        Check.due("practised(3, 0)", x.practised(3, 0), 3);
        Check.due("practised(3, 1)", x.practised(3, 1), 1);
        Check.due("practised(3, 2)", x.practised(3, 2), 0);
        Check.due("practised(9, 0)", x.practised(9, 0), 0);
        Check.due("practised(9, 1)", x.practised(9, 1), 0);
        Check.due("practised(9, 2)", x.practised(9, 2), 2);
        Check.due("practised(0, 0)", x.practised(0, 0), 0);
        x.point(5, 5);
        x.practise(0);
        Check.due("practised(0, 0)", x.practised(0, 0) + x.practised(0, 1) + x.practised(0, 2), 1);
        Check.due("with the name 0", x.about(5), 7);
        Check.refused("practised(-1, 0)", Check.ARGUMENT, () -> x.practised(-1, 0));
        Check.refused("practised(10, 0)", Check.ARGUMENT, () -> x.practised(10, 0));
        Check.refused("practised(0, -1)", Check.ARGUMENT, () -> x.practised(0, -1));
        Check.refused("practised(0, 3)", Check.ARGUMENT, () -> x.practised(0, 3));
    }

    private static void dueFigure(int ruling, String text, String want) {
        RuledStrokes x = new RuledStrokes();
        x.set(0, ruling);
        Check.due(text + " by " + ruling, Check.draw(x, text), want.length());
        Check.dueSigns(text + " by " + ruling, x, want);
        Check.learn(x, 0, text);
        Check.dueSignsOf(text + " by " + ruling, x, 0, want);
    }

    private static void signs() {
        dueFigure(10, "5,5", "");
        dueFigure(10, "5,5-45,5", "0000");
        dueFigure(10, "45,5-5,5", "2222");
        dueFigure(10, "5,5-5,45", "1111");
        dueFigure(10, "5,45-5,5", "3333");
        dueFigure(10, "5,5/5,5", "4");
        dueFigure(10, "5,5/5,5/5,5", "44");
        dueFigure(10, "5,5-15,5/15,15-5,15/5,5-5,15", "04241");
        dueFigure(5, "0,0-60,0", "000000000000");
        dueFigure(20, "0,0-60,0", "000");
        dueFigure(13, "0,0-60,0", "0000");
        dueFigure(7, "6,13-7,14", "01");
        RuledStrokes x = new RuledStrokes();
        Check.refused("sign(-1)", Check.ARGUMENT, () -> x.sign(-1));
        Check.due("sign(0) without strokes", x.sign(0), -1);
        Check.draw(x, "5,5-45,5");
        Check.due("sign(3)", x.sign(3), 0);
        Check.due("sign(4)", x.sign(4), -1);
        Check.due("sign(40)", x.sign(40), -1);
        Check.due("sign(max)", x.sign(Integer.MAX_VALUE), -1);
        Check.refused("sign(min)", Check.ARGUMENT, () -> x.sign(Integer.MIN_VALUE));
    }

    private static void order() {
        dueFigure(10, "5,5-25,45", "101101");
        dueFigure(10, "5,5-45,25", "010010");
        dueFigure(10, "5,5-45,45", "01010101");
        dueFigure(10, "45,45-5,5", "23232323");
        dueFigure(10, "45,5-5,45", "21212121");
        dueFigure(10, "5,45-45,5", "03030303");
        dueFigure(10, "9,5-10,5", "0");
        dueFigure(10, "10,5-9,5", "2");
        dueFigure(10, "10,5-19,5", "");
        dueFigure(10, "20,5-10,5", "2");
        dueFigure(10, "5,20-5,10-5,9", "33");
        dueFigure(10, "20,10-19,20", "21");
        dueFigure(10, "19,20-20,10", "30");
        dueFigure(10, "10,10-9,9", "23");
        dueFigure(10, "9,9-10,10", "01");
        dueFigure(10, "10,9-9,10", "21");
        dueFigure(10, "9,10-10,9", "30");
        dueFigure(10, "8,9-11,11", "10");
        dueFigure(10, "9,8-11,11", "01");
        dueFigure(10, "29,0-30,60", "1111101");
        dueFigure(10, "30,60-29,0", "2333333");
    }

    private static void samples() {
        RuledStrokes x = new RuledStrokes();
        Check.learn(x, 7, "5,5-45,5/1,1/2,2-3,3-4,4");
        Check.learn(x, 0, "5,5");
        int[][] want = {{7, 3, 6, 6}, {0, 1, 1, 0}};
        for (int s = 0; s < 2; s++) {
            for (int what = 0; what < 4; what++) {
                Check.due("sample(" + s + ", " + what + ")", x.sample(s, what), want[s][what]);
            }
        }
        Check.refused("sample(2, 0)", Check.INDEX, () -> x.sample(2, 0));
        Check.refused("sample(-1, 0)", Check.INDEX, () -> x.sample(-1, 0));
        Check.refused("sample(2, 9)", Check.INDEX, () -> x.sample(2, 9));
        Check.refused("sample(16, 0)", Check.INDEX, () -> x.sample(16, 0));
        Check.refused("sample(0, -1)", Check.ARGUMENT, () -> x.sample(0, -1));
        Check.refused("sample(0, 4)", Check.ARGUMENT, () -> x.sample(0, 4));
    }

    private static void signsOfSamples() {
        RuledStrokes x = new RuledStrokes();
        Check.learn(x, 1, "5,5-25,45");
        Check.learn(x, 2, "45,5-5,5");
        Check.dueSignsOf("sample 0", x, 0, "101101");
        Check.dueSignsOf("sample 1", x, 1, "2222");
        x.forget(0);
        Check.dueSignsOf("sample 0, that was 1", x, 0, "2222");
        x.set(0, 20);
        Check.dueSignsOf("by another ruling", x, 0, "22");
        Check.due("signOf(0, max)", x.signOf(0, Integer.MAX_VALUE), -1);
        Check.refused("signOf(1, 0)", Check.INDEX, () -> x.signOf(1, 0));
        Check.refused("signOf(-1, 0)", Check.INDEX, () -> x.signOf(-1, 0));
        Check.refused("signOf(1, -1)", Check.INDEX, () -> x.signOf(1, -1));
        Check.refused("signOf(0, -1)", Check.ARGUMENT, () -> x.signOf(0, -1));
    }

    private static void settings() {
        RuledStrokes x = new RuledStrokes();
        x.set(0, 5);
        x.set(1, 99);
        x.set(2, 20);
        Check.due("setting(0)", x.setting(0), 5);
        Check.due("setting(1)", x.setting(1), 99);
        Check.due("setting(2)", x.setting(2), 20);
        Check.refused("setting(-1)", Check.ARGUMENT, () -> x.setting(-1));
        Check.refused("setting(3)", Check.ARGUMENT, () -> x.setting(3));
    }
}
