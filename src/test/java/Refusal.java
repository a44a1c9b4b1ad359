import java.util.List;
import java.util.Map;
import java.util.TreeMap;
import java.util.function.Consumer;
import java.util.function.Function;

/** That a call throws what is due, and that nothing is then other than on a vault without that call. */
final class Refusal {
    private static final Map<String, Function<CrashVault, String>> LOOKS = new TreeMap<>(Map.of(
        "the disk in slot 0", vault -> Told.slot(vault, 0),
        "the disk in slot 1", vault -> Told.slot(vault, 1),
        "the vault", Refusal::vaultAndSlots,
        "slot 0 after a save", vault -> saved(vault, 1) + Told.slot(vault, 0),
        "slot 1 after a save", vault -> saved(vault, 1) + Told.slot(vault, 1),
        "slot 0 after two saves", vault -> saved(vault, 2) + Told.slot(vault, 0),
        "slot 1 after two saves", vault -> saved(vault, 2) + Told.slot(vault, 1),
        "what opens then", vault -> opened(vault, Scene.PASSWORD),
        "what the renewed password opens then", vault -> opened(vault, Scene.RENEWED)));

    private Refusal() {
    }

    static void in(Scene scene, String call, Class<? extends RuntimeException> kind, Consumer<CrashVault> refused) {
        LOOKS.forEach((what, look) -> {
            CrashVault vault = scene.vault().get();
            Check.refused(scene.name() + ": " + call, kind, () -> refused.accept(vault));
            Check.due(scene.name() + ": " + what + " after " + call, look.apply(vault),
                look.apply(scene.vault().get()));
        });
    }

    static void in(List<Scene> scenes, String call, Class<? extends RuntimeException> kind,
            Consumer<CrashVault> refused) {
        for (Scene scene : scenes) {
            in(scene, call, kind, refused);
        }
    }

    static void everywhere(String call, Class<? extends RuntimeException> kind, Consumer<CrashVault> refused) {
        in(Scene.SHUT, call, kind, refused);
        in(Scene.OPEN, call, kind, refused);
    }

    /** IllegalStateException on every shut vault, and nothing on an open one. */
    static void justWhenShut(String call, Consumer<CrashVault> refused) {
        in(Scene.SHUT, call, IllegalStateException.class, refused);
        for (Scene scene : Scene.OPEN) {
            CrashVault vault = scene.vault().get();
            Check.taken(scene.name() + ": " + call, () -> refused.accept(vault));
        }
    }

    private static String vaultAndSlots(CrashVault vault) {
        return Told.vault(vault) + Told.good(vault, Scene.PASSWORD, Scene.RENEWED, Scene.NOBODYS);
    }

    private static String saved(CrashVault vault, int times) {
        StringBuilder told = new StringBuilder();
        for (int time = 0; time < times; time++) {
            told.append(Told.answer(() -> vault.save(1000))).append(' ');
        }
        return told.toString();
    }

    private static String opened(CrashVault vault, long password) {
        boolean wasOpen = vault.shut();
        return wasOpen + " " + Told.answer(() -> vault.open(password)) + " " + vaultAndSlots(vault);
    }
}
