/** The calls of the document's face: of the class itself (Counted), and of a second reading. */
interface Face {
    void plan();

    void picture(int x0, int y0, int x1, int y1);

    void tiles(int x, int y, int wide, int high);

    int component(int bits, boolean signed, int dx, int dy);

    void general(int order, int layers, boolean colour, boolean ahead, boolean behind);

    void coding(int c, int levels, int bw, int bh, int style, boolean exact);

    void precincts(int c, int r, int pw, int ph);

    void steps(int c, int kind, int guard, int shift);

    void step(int c, int k, int value);

    int change(int level, int component, int layerEnd, int levelEnd, int componentEnd, int order);

    int get(int what, int a, int b);

    void clear();

    int put(int b);

    int at(int k);

    int write();

    void part(int tile, int part, int parts, int bytes);

    void mark(int m);

    void spoil(int k, int b);

    int scan();

    int place();

    int use(int tile);

    int head(int tile, int i);

    int found(int k, int what);
}
