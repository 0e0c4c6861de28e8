/** Texts of HIRES that several tests use. */
final class Hires {
    static final String SIGNS = "sign a brings 1;sign b brings 2;";
    static final String WORKS = "work x costs 0 chances 4 6;work y costs 1 chances 5 5;";
    /** toil can be had for 8: 0 for low, 10 for high. */
    static final String TWO = "sign low brings 10;sign high brings 100;"
        + "work rest costs 0 chances 8 2;work toil costs 6 chances 2 8;";
    /** The third WORK is the mean of the other two, but dearer: no wages bring it about. */
    static final String MEAN = "sign a brings 0;sign b brings 10;work x costs 0 chances 10 0;"
        + "work y costs 4 chances 0 10;work z costs 3 chances 5 5;";
    /** The third WORK costs just what the mean of the other two costs. */
    static final String EVEN = MEAN.replace("costs 3", "costs 2");
    /** Under no WORK comes the SIGN c. */
    static final String SURE = "sign a brings 0;sign b brings 1;sign c brings 2;"
        + "work x costs 0 chances 10 0 0;work y costs 0 chances 0 10 0;work z costs 0 chances 5 5 0;";
    /** As many SIGNS, WORKS and RATES as there can be. */
    static final String MOST = "whole 7;sign a brings 5;sign b brings 999;sign c brings 0;sign d brings 12;"
        + "work a costs 3 chances 1 2 3 1;work b costs 99 chances 7 0 0 0;work c costs 0 chances 0 0 0 7;"
        + "work d costs 4 chances 1 1 1 4;work e costs 5 chances 2 2 2 1;feel 5 3 4 99 1;least 99;else 98;";

    private Hires() {
    }
}
