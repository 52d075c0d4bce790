/** Definitions of one run, each of which may name those that were read before it. */
interface Definitions {
    /** What stands behind "=". */
    String definition();

    /** The latest definition was read, by this name. */
    void told(String name);
}
