/** One call of the class that is tested, as a piece of a Story. */
interface Call {
    long on(BondedStore store);
}
