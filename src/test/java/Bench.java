/** Makes new objects, of the class or of a model. */
interface Bench {
    Face make();

    default Trial fresh() {
        return new Trial(make());
    }
}
