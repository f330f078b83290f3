/** Promise 15: rest. */
public final class RestTest {
    public static void main(String[] args) {
        SteamBends x = new SteamBends();
        Check.dueThrow("there was none", Check.STATE, () -> x.rest());
        Check.dueThrow("refused kerfs", Check.ARGUMENT, () -> x.kerfs(0, 20, 3, 2));
        Check.dueThrow("are none", Check.STATE, () -> x.rest());
        x.kerfs(90, 20, 3, 2);
        Check.due("90", 4.36951919801794, () -> x.rest());
        Check.due("asked again", 4.36951919801794, () -> x.rest());
        x.kerfs(180, 25, 2.5, 1.2);
        Check.due("180", 0.29071953449903276, () -> x.rest());
        x.kerfs(45, 19, 4, 3.2);
        Check.due("45", 3.8923985178302516, () -> x.rest());
        x.kerfs(360, 1000, 0.125, 0.125);
        Check.due("most of all", 0.00573550787817112, () -> x.rest());
        x.kerfs(57.29577951308232, 10, 8, 1);
        Check.due("nothing is above", 0, () -> x.rest());
        x.kerfs(1, 1, 0.875, 100);
        Check.due("one kerf", 45835.62361046586, () -> x.rest());
        x.kerfs(28.64788975654116, 10, 8, 1);
        Check.dueThrow("refused kerfs", Check.ARGUMENT, () -> x.kerfs(90, 20, 20, 2));
        Check.due("a rest of 0 is one", 0, () -> x.rest());
        Check.end();
    }
}
