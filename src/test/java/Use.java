/** What a test does with an object: a call, or the calls that bring it into a state. */
interface Use {
    void on(Counted x);
}
