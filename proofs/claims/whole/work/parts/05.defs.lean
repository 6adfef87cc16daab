abbrev wd_7_5_6_1_2_4_3_0 (g : En) (S7 : St) (S5 : St) (S6 : St) (S1 : St) (S2 : St) (S4 : St) (S3 : St) (S0 : St) : va_W := [((g.2.2.1 7), .inr (7, [.ref (g.2.2.1 5), .ref (g.2.2.1 6), .ref (g.2.2.1 1), .ref (g.2.2.1 2), .ref (g.2.2.1 4), .ref (g.2.2.1 3), .ref (g.2.2.1 0), .ref (g.2.2.2 7 7), .int (S7.1 8), .int (S7.1 9), .int (S7.1 10), .long (S7.2.1 11), .long (S7.2.1 12)])),
  ((g.2.2.2 7 7), .inl (g.2.1.1, 6, .inl (S7.2.2 7))),
  ((g.2.2.1 5), .inr (5, [.ref (g.2.2.1 6), .ref (g.2.2.2 5 1), .ref (g.2.2.2 5 2), .ref (g.2.2.2 5 3), .ref (g.2.2.2 5 4), .ref (g.2.2.2 5 5), .ref (g.2.2.2 5 6), .ref (g.2.2.2 5 7), .ref (g.2.2.2 5 8), .ref (g.2.2.2 5 9), .int (S5.1 10), .int (S5.1 11), .int (S5.1 12), .int (S5.1 13), .int (S5.1 14)])),
  ((g.2.2.2 5 1), .inl (g.2.1.1, 10, .inl (S5.2.2 1))),
  ((g.2.2.2 5 2), .inl (g.2.1.1, 24, .inl (S5.2.2 2))),
  ((g.2.2.2 5 3), .inl (g.2.1.1, 24, .inl (S5.2.2 3))),
  ((g.2.2.2 5 4), .inl (g.2.1.1, 24, .inl (S5.2.2 4))),
  ((g.2.2.2 5 5), .inl (g.2.1.1, 24, .inl (S5.2.2 5))),
  ((g.2.2.2 5 6), .inl (g.2.1.1, 24, .inl (S5.2.2 6))),
  ((g.2.2.2 5 7), .inl (g.2.1.1, 24, .inl (S5.2.2 7))),
  ((g.2.2.2 5 8), .inl (g.2.1.1, 24, .inl (S5.2.2 8))),
  ((g.2.2.2 5 9), .inl (g.2.1.1, 24, .inl (S5.2.2 9))),
  ((g.2.2.1 6), .inr (6, [.ref (g.2.2.2 6 0), .ref (g.2.2.2 6 1)])),
  ((g.2.2.2 6 0), .inl (g.2.1.1, 6, .inl (S6.2.2 0))),
  ((g.2.2.2 6 1), .inl (g.2.1.2.1, 240, .inl (S6.2.2 1))),
  ((g.2.2.1 1), .inr (1, [.ref (g.2.2.2 1 0), .ref (g.2.2.2 1 1), .ref (g.2.2.2 1 2), .ref (g.2.2.2 1 3), .int (S1.1 4)])),
  ((g.2.2.2 1 0), .inl (g.2.1.1, 24, .inl (S1.2.2 0))),
  ((g.2.2.2 1 1), .inl (g.2.1.1, 24, .inl (S1.2.2 1))),
  ((g.2.2.2 1 2), .inl (g.2.1.1, 24, .inl (S1.2.2 2))),
  ((g.2.2.2 1 3), .inl (g.2.1.1, 24, .inl (S1.2.2 3))),
  ((g.2.2.1 2), .inr (2, [.ref (g.2.2.2 2 0), .ref (g.2.2.2 2 1), .ref (g.2.2.2 2 2), .ref (g.2.2.2 2 3), .ref (g.2.2.2 2 4), .ref (g.2.2.2 2 5), .ref (g.2.2.2 2 6), .ref (g.2.2.2 2 7), .int (S2.1 8), .int (S2.1 9)])),
  ((g.2.2.2 2 0), .inl (g.2.1.1, 4, .inl (S2.2.2 0))),
  ((g.2.2.2 2 1), .inl (g.2.1.1, 10, .inl (S2.2.2 1))),
  ((g.2.2.2 2 2), .inl (g.2.1.1, 10, .inl (S2.2.2 2))),
  ((g.2.2.2 2 3), .inl (g.2.1.1, 10, .inl (S2.2.2 3))),
  ((g.2.2.2 2 4), .inl (g.2.1.1, 40, .inl (S2.2.2 4))),
  ((g.2.2.2 2 5), .inl (g.2.1.1, 10, .inl (S2.2.2 5))),
  ((g.2.2.2 2 6), .inl (g.2.1.2.2, 10, .inl (S2.2.2 6))),
  ((g.2.2.2 2 7), .inl (g.2.1.2.2, 4, .inl (S2.2.2 7))),
  ((g.2.2.1 4), .inr (4, [.ref (g.2.2.2 4 0), .ref (g.2.2.2 4 1), .int (S4.1 2), .int (S4.1 3), .int (S4.1 4)])),
  ((g.2.2.2 4 0), .inl (g.2.1.1, 20, .inl (S4.2.2 0))),
  ((g.2.2.2 4 1), .inl (g.2.1.1, 20, .inl (S4.2.2 1))),
  ((g.2.2.1 3), .inr (3, [.ref (g.2.2.2 3 0), .ref (g.2.2.2 3 1), .ref (g.2.2.2 3 2), .ref (g.2.2.2 3 3), .int (S3.1 4), .int (S3.1 5), .int (S3.1 6)])),
  ((g.2.2.2 3 0), .inl (g.2.1.1, 30, .inl (S3.2.2 0))),
  ((g.2.2.2 3 1), .inl (g.2.1.1, 30, .inl (S3.2.2 1))),
  ((g.2.2.2 3 2), .inl (g.2.1.1, 30, .inl (S3.2.2 2))),
  ((g.2.2.2 3 3), .inl (g.2.1.2.2, 30, .inl (S3.2.2 3))),
  ((g.2.2.1 0), .inr (0, [.ref (g.2.2.2 0 0), .ref (g.2.2.2 0 1), .ref (g.2.2.2 0 2), .ref (g.2.2.2 0 3), .int (S0.1 4), .int (S0.1 5), .int (S0.1 6), .int (S0.1 7)])),
  ((g.2.2.2 0 0), .inl (g.2.1.1, 8, .inl (S0.2.2 0))),
  ((g.2.2.2 0 1), .inl (g.2.1.1, 8, .inl (S0.2.2 1))),
  ((g.2.2.2 0 2), .inl (g.2.1.1, 8, .inl (S0.2.2 2))),
  ((g.2.2.2 0 3), .inl (g.2.1.1, 8, .inl (S0.2.2 3)))]
abbrev wd_7 (g : En) (S7 : St) : va_W := [((g.2.2.1 7), .inr (7, [.ref (g.2.2.1 5), .ref (g.2.2.1 6), .ref (g.2.2.1 1), .ref (g.2.2.1 2), .ref (g.2.2.1 4), .ref (g.2.2.1 3), .ref (g.2.2.1 0), .ref (g.2.2.2 7 7), .int (S7.1 8), .int (S7.1 9), .int (S7.1 10), .long (S7.2.1 11), .long (S7.2.1 12)])),
  ((g.2.2.2 7 7), .inl (g.2.1.1, 6, .inl (S7.2.2 7)))]
abbrev wd_7_6 (g : En) (S7 : St) (S6 : St) : va_W := [((g.2.2.1 7), .inr (7, [.ref (g.2.2.1 5), .ref (g.2.2.1 6), .ref (g.2.2.1 1), .ref (g.2.2.1 2), .ref (g.2.2.1 4), .ref (g.2.2.1 3), .ref (g.2.2.1 0), .ref (g.2.2.2 7 7), .int (S7.1 8), .int (S7.1 9), .int (S7.1 10), .long (S7.2.1 11), .long (S7.2.1 12)])),
  ((g.2.2.2 7 7), .inl (g.2.1.1, 6, .inl (S7.2.2 7))),
  ((g.2.2.1 6), .inr (6, [.ref (g.2.2.2 6 0), .ref (g.2.2.2 6 1)])),
  ((g.2.2.2 6 0), .inl (g.2.1.1, 6, .inl (S6.2.2 0))),
  ((g.2.2.2 6 1), .inl (g.2.1.2.1, 240, .inl (S6.2.2 1)))]
abbrev wd_7_5 (g : En) (S7 : St) (S5 : St) : va_W := [((g.2.2.1 7), .inr (7, [.ref (g.2.2.1 5), .ref (g.2.2.1 6), .ref (g.2.2.1 1), .ref (g.2.2.1 2), .ref (g.2.2.1 4), .ref (g.2.2.1 3), .ref (g.2.2.1 0), .ref (g.2.2.2 7 7), .int (S7.1 8), .int (S7.1 9), .int (S7.1 10), .long (S7.2.1 11), .long (S7.2.1 12)])),
  ((g.2.2.2 7 7), .inl (g.2.1.1, 6, .inl (S7.2.2 7))),
  ((g.2.2.1 5), .inr (5, [.ref (g.2.2.1 6), .ref (g.2.2.2 5 1), .ref (g.2.2.2 5 2), .ref (g.2.2.2 5 3), .ref (g.2.2.2 5 4), .ref (g.2.2.2 5 5), .ref (g.2.2.2 5 6), .ref (g.2.2.2 5 7), .ref (g.2.2.2 5 8), .ref (g.2.2.2 5 9), .int (S5.1 10), .int (S5.1 11), .int (S5.1 12), .int (S5.1 13), .int (S5.1 14)])),
  ((g.2.2.2 5 1), .inl (g.2.1.1, 10, .inl (S5.2.2 1))),
  ((g.2.2.2 5 2), .inl (g.2.1.1, 24, .inl (S5.2.2 2))),
  ((g.2.2.2 5 3), .inl (g.2.1.1, 24, .inl (S5.2.2 3))),
  ((g.2.2.2 5 4), .inl (g.2.1.1, 24, .inl (S5.2.2 4))),
  ((g.2.2.2 5 5), .inl (g.2.1.1, 24, .inl (S5.2.2 5))),
  ((g.2.2.2 5 6), .inl (g.2.1.1, 24, .inl (S5.2.2 6))),
  ((g.2.2.2 5 7), .inl (g.2.1.1, 24, .inl (S5.2.2 7))),
  ((g.2.2.2 5 8), .inl (g.2.1.1, 24, .inl (S5.2.2 8))),
  ((g.2.2.2 5 9), .inl (g.2.1.1, 24, .inl (S5.2.2 9)))]
abbrev wd_7_5_6 (g : En) (S7 : St) (S5 : St) (S6 : St) : va_W := [((g.2.2.1 7), .inr (7, [.ref (g.2.2.1 5), .ref (g.2.2.1 6), .ref (g.2.2.1 1), .ref (g.2.2.1 2), .ref (g.2.2.1 4), .ref (g.2.2.1 3), .ref (g.2.2.1 0), .ref (g.2.2.2 7 7), .int (S7.1 8), .int (S7.1 9), .int (S7.1 10), .long (S7.2.1 11), .long (S7.2.1 12)])),
  ((g.2.2.2 7 7), .inl (g.2.1.1, 6, .inl (S7.2.2 7))),
  ((g.2.2.1 5), .inr (5, [.ref (g.2.2.1 6), .ref (g.2.2.2 5 1), .ref (g.2.2.2 5 2), .ref (g.2.2.2 5 3), .ref (g.2.2.2 5 4), .ref (g.2.2.2 5 5), .ref (g.2.2.2 5 6), .ref (g.2.2.2 5 7), .ref (g.2.2.2 5 8), .ref (g.2.2.2 5 9), .int (S5.1 10), .int (S5.1 11), .int (S5.1 12), .int (S5.1 13), .int (S5.1 14)])),
  ((g.2.2.2 5 1), .inl (g.2.1.1, 10, .inl (S5.2.2 1))),
  ((g.2.2.2 5 2), .inl (g.2.1.1, 24, .inl (S5.2.2 2))),
  ((g.2.2.2 5 3), .inl (g.2.1.1, 24, .inl (S5.2.2 3))),
  ((g.2.2.2 5 4), .inl (g.2.1.1, 24, .inl (S5.2.2 4))),
  ((g.2.2.2 5 5), .inl (g.2.1.1, 24, .inl (S5.2.2 5))),
  ((g.2.2.2 5 6), .inl (g.2.1.1, 24, .inl (S5.2.2 6))),
  ((g.2.2.2 5 7), .inl (g.2.1.1, 24, .inl (S5.2.2 7))),
  ((g.2.2.2 5 8), .inl (g.2.1.1, 24, .inl (S5.2.2 8))),
  ((g.2.2.2 5 9), .inl (g.2.1.1, 24, .inl (S5.2.2 9))),
  ((g.2.2.1 6), .inr (6, [.ref (g.2.2.2 6 0), .ref (g.2.2.2 6 1)])),
  ((g.2.2.2 6 0), .inl (g.2.1.1, 6, .inl (S6.2.2 0))),
  ((g.2.2.2 6 1), .inl (g.2.1.2.1, 240, .inl (S6.2.2 1)))]
abbrev wd_7_5_6_1 (g : En) (S7 : St) (S5 : St) (S6 : St) (S1 : St) : va_W := [((g.2.2.1 7), .inr (7, [.ref (g.2.2.1 5), .ref (g.2.2.1 6), .ref (g.2.2.1 1), .ref (g.2.2.1 2), .ref (g.2.2.1 4), .ref (g.2.2.1 3), .ref (g.2.2.1 0), .ref (g.2.2.2 7 7), .int (S7.1 8), .int (S7.1 9), .int (S7.1 10), .long (S7.2.1 11), .long (S7.2.1 12)])),
  ((g.2.2.2 7 7), .inl (g.2.1.1, 6, .inl (S7.2.2 7))),
  ((g.2.2.1 5), .inr (5, [.ref (g.2.2.1 6), .ref (g.2.2.2 5 1), .ref (g.2.2.2 5 2), .ref (g.2.2.2 5 3), .ref (g.2.2.2 5 4), .ref (g.2.2.2 5 5), .ref (g.2.2.2 5 6), .ref (g.2.2.2 5 7), .ref (g.2.2.2 5 8), .ref (g.2.2.2 5 9), .int (S5.1 10), .int (S5.1 11), .int (S5.1 12), .int (S5.1 13), .int (S5.1 14)])),
  ((g.2.2.2 5 1), .inl (g.2.1.1, 10, .inl (S5.2.2 1))),
  ((g.2.2.2 5 2), .inl (g.2.1.1, 24, .inl (S5.2.2 2))),
  ((g.2.2.2 5 3), .inl (g.2.1.1, 24, .inl (S5.2.2 3))),
  ((g.2.2.2 5 4), .inl (g.2.1.1, 24, .inl (S5.2.2 4))),
  ((g.2.2.2 5 5), .inl (g.2.1.1, 24, .inl (S5.2.2 5))),
  ((g.2.2.2 5 6), .inl (g.2.1.1, 24, .inl (S5.2.2 6))),
  ((g.2.2.2 5 7), .inl (g.2.1.1, 24, .inl (S5.2.2 7))),
  ((g.2.2.2 5 8), .inl (g.2.1.1, 24, .inl (S5.2.2 8))),
  ((g.2.2.2 5 9), .inl (g.2.1.1, 24, .inl (S5.2.2 9))),
  ((g.2.2.1 6), .inr (6, [.ref (g.2.2.2 6 0), .ref (g.2.2.2 6 1)])),
  ((g.2.2.2 6 0), .inl (g.2.1.1, 6, .inl (S6.2.2 0))),
  ((g.2.2.2 6 1), .inl (g.2.1.2.1, 240, .inl (S6.2.2 1))),
  ((g.2.2.1 1), .inr (1, [.ref (g.2.2.2 1 0), .ref (g.2.2.2 1 1), .ref (g.2.2.2 1 2), .ref (g.2.2.2 1 3), .int (S1.1 4)])),
  ((g.2.2.2 1 0), .inl (g.2.1.1, 24, .inl (S1.2.2 0))),
  ((g.2.2.2 1 1), .inl (g.2.1.1, 24, .inl (S1.2.2 1))),
  ((g.2.2.2 1 2), .inl (g.2.1.1, 24, .inl (S1.2.2 2))),
  ((g.2.2.2 1 3), .inl (g.2.1.1, 24, .inl (S1.2.2 3)))]
abbrev wd_7_2 (g : En) (S7 : St) (S2 : St) : va_W := [((g.2.2.1 7), .inr (7, [.ref (g.2.2.1 5), .ref (g.2.2.1 6), .ref (g.2.2.1 1), .ref (g.2.2.1 2), .ref (g.2.2.1 4), .ref (g.2.2.1 3), .ref (g.2.2.1 0), .ref (g.2.2.2 7 7), .int (S7.1 8), .int (S7.1 9), .int (S7.1 10), .long (S7.2.1 11), .long (S7.2.1 12)])),
  ((g.2.2.2 7 7), .inl (g.2.1.1, 6, .inl (S7.2.2 7))),
  ((g.2.2.1 2), .inr (2, [.ref (g.2.2.2 2 0), .ref (g.2.2.2 2 1), .ref (g.2.2.2 2 2), .ref (g.2.2.2 2 3), .ref (g.2.2.2 2 4), .ref (g.2.2.2 2 5), .ref (g.2.2.2 2 6), .ref (g.2.2.2 2 7), .int (S2.1 8), .int (S2.1 9)])),
  ((g.2.2.2 2 0), .inl (g.2.1.1, 4, .inl (S2.2.2 0))),
  ((g.2.2.2 2 1), .inl (g.2.1.1, 10, .inl (S2.2.2 1))),
  ((g.2.2.2 2 2), .inl (g.2.1.1, 10, .inl (S2.2.2 2))),
  ((g.2.2.2 2 3), .inl (g.2.1.1, 10, .inl (S2.2.2 3))),
  ((g.2.2.2 2 4), .inl (g.2.1.1, 40, .inl (S2.2.2 4))),
  ((g.2.2.2 2 5), .inl (g.2.1.1, 10, .inl (S2.2.2 5))),
  ((g.2.2.2 2 6), .inl (g.2.1.2.2, 10, .inl (S2.2.2 6))),
  ((g.2.2.2 2 7), .inl (g.2.1.2.2, 4, .inl (S2.2.2 7)))]
abbrev wd_7_4 (g : En) (S7 : St) (S4 : St) : va_W := [((g.2.2.1 7), .inr (7, [.ref (g.2.2.1 5), .ref (g.2.2.1 6), .ref (g.2.2.1 1), .ref (g.2.2.1 2), .ref (g.2.2.1 4), .ref (g.2.2.1 3), .ref (g.2.2.1 0), .ref (g.2.2.2 7 7), .int (S7.1 8), .int (S7.1 9), .int (S7.1 10), .long (S7.2.1 11), .long (S7.2.1 12)])),
  ((g.2.2.2 7 7), .inl (g.2.1.1, 6, .inl (S7.2.2 7))),
  ((g.2.2.1 4), .inr (4, [.ref (g.2.2.2 4 0), .ref (g.2.2.2 4 1), .int (S4.1 2), .int (S4.1 3), .int (S4.1 4)])),
  ((g.2.2.2 4 0), .inl (g.2.1.1, 20, .inl (S4.2.2 0))),
  ((g.2.2.2 4 1), .inl (g.2.1.1, 20, .inl (S4.2.2 1)))]
abbrev wd_7_3 (g : En) (S7 : St) (S3 : St) : va_W := [((g.2.2.1 7), .inr (7, [.ref (g.2.2.1 5), .ref (g.2.2.1 6), .ref (g.2.2.1 1), .ref (g.2.2.1 2), .ref (g.2.2.1 4), .ref (g.2.2.1 3), .ref (g.2.2.1 0), .ref (g.2.2.2 7 7), .int (S7.1 8), .int (S7.1 9), .int (S7.1 10), .long (S7.2.1 11), .long (S7.2.1 12)])),
  ((g.2.2.2 7 7), .inl (g.2.1.1, 6, .inl (S7.2.2 7))),
  ((g.2.2.1 3), .inr (3, [.ref (g.2.2.2 3 0), .ref (g.2.2.2 3 1), .ref (g.2.2.2 3 2), .ref (g.2.2.2 3 3), .int (S3.1 4), .int (S3.1 5), .int (S3.1 6)])),
  ((g.2.2.2 3 0), .inl (g.2.1.1, 30, .inl (S3.2.2 0))),
  ((g.2.2.2 3 1), .inl (g.2.1.1, 30, .inl (S3.2.2 1))),
  ((g.2.2.2 3 2), .inl (g.2.1.1, 30, .inl (S3.2.2 2))),
  ((g.2.2.2 3 3), .inl (g.2.1.2.2, 30, .inl (S3.2.2 3)))]
abbrev wd_7_0 (g : En) (S7 : St) (S0 : St) : va_W := [((g.2.2.1 7), .inr (7, [.ref (g.2.2.1 5), .ref (g.2.2.1 6), .ref (g.2.2.1 1), .ref (g.2.2.1 2), .ref (g.2.2.1 4), .ref (g.2.2.1 3), .ref (g.2.2.1 0), .ref (g.2.2.2 7 7), .int (S7.1 8), .int (S7.1 9), .int (S7.1 10), .long (S7.2.1 11), .long (S7.2.1 12)])),
  ((g.2.2.2 7 7), .inl (g.2.1.1, 6, .inl (S7.2.2 7))),
  ((g.2.2.1 0), .inr (0, [.ref (g.2.2.2 0 0), .ref (g.2.2.2 0 1), .ref (g.2.2.2 0 2), .ref (g.2.2.2 0 3), .int (S0.1 4), .int (S0.1 5), .int (S0.1 6), .int (S0.1 7)])),
  ((g.2.2.2 0 0), .inl (g.2.1.1, 8, .inl (S0.2.2 0))),
  ((g.2.2.2 0 1), .inl (g.2.1.1, 8, .inl (S0.2.2 1))),
  ((g.2.2.2 0 2), .inl (g.2.1.1, 8, .inl (S0.2.2 2))),
  ((g.2.2.2 0 3), .inl (g.2.1.1, 8, .inl (S0.2.2 3)))]
abbrev wd_7_2_0 (g : En) (S7 : St) (S2 : St) (S0 : St) : va_W := [((g.2.2.1 7), .inr (7, [.ref (g.2.2.1 5), .ref (g.2.2.1 6), .ref (g.2.2.1 1), .ref (g.2.2.1 2), .ref (g.2.2.1 4), .ref (g.2.2.1 3), .ref (g.2.2.1 0), .ref (g.2.2.2 7 7), .int (S7.1 8), .int (S7.1 9), .int (S7.1 10), .long (S7.2.1 11), .long (S7.2.1 12)])),
  ((g.2.2.2 7 7), .inl (g.2.1.1, 6, .inl (S7.2.2 7))),
  ((g.2.2.1 2), .inr (2, [.ref (g.2.2.2 2 0), .ref (g.2.2.2 2 1), .ref (g.2.2.2 2 2), .ref (g.2.2.2 2 3), .ref (g.2.2.2 2 4), .ref (g.2.2.2 2 5), .ref (g.2.2.2 2 6), .ref (g.2.2.2 2 7), .int (S2.1 8), .int (S2.1 9)])),
  ((g.2.2.2 2 0), .inl (g.2.1.1, 4, .inl (S2.2.2 0))),
  ((g.2.2.2 2 1), .inl (g.2.1.1, 10, .inl (S2.2.2 1))),
  ((g.2.2.2 2 2), .inl (g.2.1.1, 10, .inl (S2.2.2 2))),
  ((g.2.2.2 2 3), .inl (g.2.1.1, 10, .inl (S2.2.2 3))),
  ((g.2.2.2 2 4), .inl (g.2.1.1, 40, .inl (S2.2.2 4))),
  ((g.2.2.2 2 5), .inl (g.2.1.1, 10, .inl (S2.2.2 5))),
  ((g.2.2.2 2 6), .inl (g.2.1.2.2, 10, .inl (S2.2.2 6))),
  ((g.2.2.2 2 7), .inl (g.2.1.2.2, 4, .inl (S2.2.2 7))),
  ((g.2.2.1 0), .inr (0, [.ref (g.2.2.2 0 0), .ref (g.2.2.2 0 1), .ref (g.2.2.2 0 2), .ref (g.2.2.2 0 3), .int (S0.1 4), .int (S0.1 5), .int (S0.1 6), .int (S0.1 7)])),
  ((g.2.2.2 0 0), .inl (g.2.1.1, 8, .inl (S0.2.2 0))),
  ((g.2.2.2 0 1), .inl (g.2.1.1, 8, .inl (S0.2.2 1))),
  ((g.2.2.2 0 2), .inl (g.2.1.1, 8, .inl (S0.2.2 2))),
  ((g.2.2.2 0 3), .inl (g.2.1.1, 8, .inl (S0.2.2 3)))]
abbrev wd_7_5_2_4_3_0 (g : En) (S7 : St) (S5 : St) (S2 : St) (S4 : St) (S3 : St) (S0 : St) : va_W := [((g.2.2.1 7), .inr (7, [.ref (g.2.2.1 5), .ref (g.2.2.1 6), .ref (g.2.2.1 1), .ref (g.2.2.1 2), .ref (g.2.2.1 4), .ref (g.2.2.1 3), .ref (g.2.2.1 0), .ref (g.2.2.2 7 7), .int (S7.1 8), .int (S7.1 9), .int (S7.1 10), .long (S7.2.1 11), .long (S7.2.1 12)])),
  ((g.2.2.2 7 7), .inl (g.2.1.1, 6, .inl (S7.2.2 7))),
  ((g.2.2.1 5), .inr (5, [.ref (g.2.2.1 6), .ref (g.2.2.2 5 1), .ref (g.2.2.2 5 2), .ref (g.2.2.2 5 3), .ref (g.2.2.2 5 4), .ref (g.2.2.2 5 5), .ref (g.2.2.2 5 6), .ref (g.2.2.2 5 7), .ref (g.2.2.2 5 8), .ref (g.2.2.2 5 9), .int (S5.1 10), .int (S5.1 11), .int (S5.1 12), .int (S5.1 13), .int (S5.1 14)])),
  ((g.2.2.2 5 1), .inl (g.2.1.1, 10, .inl (S5.2.2 1))),
  ((g.2.2.2 5 2), .inl (g.2.1.1, 24, .inl (S5.2.2 2))),
  ((g.2.2.2 5 3), .inl (g.2.1.1, 24, .inl (S5.2.2 3))),
  ((g.2.2.2 5 4), .inl (g.2.1.1, 24, .inl (S5.2.2 4))),
  ((g.2.2.2 5 5), .inl (g.2.1.1, 24, .inl (S5.2.2 5))),
  ((g.2.2.2 5 6), .inl (g.2.1.1, 24, .inl (S5.2.2 6))),
  ((g.2.2.2 5 7), .inl (g.2.1.1, 24, .inl (S5.2.2 7))),
  ((g.2.2.2 5 8), .inl (g.2.1.1, 24, .inl (S5.2.2 8))),
  ((g.2.2.2 5 9), .inl (g.2.1.1, 24, .inl (S5.2.2 9))),
  ((g.2.2.1 2), .inr (2, [.ref (g.2.2.2 2 0), .ref (g.2.2.2 2 1), .ref (g.2.2.2 2 2), .ref (g.2.2.2 2 3), .ref (g.2.2.2 2 4), .ref (g.2.2.2 2 5), .ref (g.2.2.2 2 6), .ref (g.2.2.2 2 7), .int (S2.1 8), .int (S2.1 9)])),
  ((g.2.2.2 2 0), .inl (g.2.1.1, 4, .inl (S2.2.2 0))),
  ((g.2.2.2 2 1), .inl (g.2.1.1, 10, .inl (S2.2.2 1))),
  ((g.2.2.2 2 2), .inl (g.2.1.1, 10, .inl (S2.2.2 2))),
  ((g.2.2.2 2 3), .inl (g.2.1.1, 10, .inl (S2.2.2 3))),
  ((g.2.2.2 2 4), .inl (g.2.1.1, 40, .inl (S2.2.2 4))),
  ((g.2.2.2 2 5), .inl (g.2.1.1, 10, .inl (S2.2.2 5))),
  ((g.2.2.2 2 6), .inl (g.2.1.2.2, 10, .inl (S2.2.2 6))),
  ((g.2.2.2 2 7), .inl (g.2.1.2.2, 4, .inl (S2.2.2 7))),
  ((g.2.2.1 4), .inr (4, [.ref (g.2.2.2 4 0), .ref (g.2.2.2 4 1), .int (S4.1 2), .int (S4.1 3), .int (S4.1 4)])),
  ((g.2.2.2 4 0), .inl (g.2.1.1, 20, .inl (S4.2.2 0))),
  ((g.2.2.2 4 1), .inl (g.2.1.1, 20, .inl (S4.2.2 1))),
  ((g.2.2.1 3), .inr (3, [.ref (g.2.2.2 3 0), .ref (g.2.2.2 3 1), .ref (g.2.2.2 3 2), .ref (g.2.2.2 3 3), .int (S3.1 4), .int (S3.1 5), .int (S3.1 6)])),
  ((g.2.2.2 3 0), .inl (g.2.1.1, 30, .inl (S3.2.2 0))),
  ((g.2.2.2 3 1), .inl (g.2.1.1, 30, .inl (S3.2.2 1))),
  ((g.2.2.2 3 2), .inl (g.2.1.1, 30, .inl (S3.2.2 2))),
  ((g.2.2.2 3 3), .inl (g.2.1.2.2, 30, .inl (S3.2.2 3))),
  ((g.2.2.1 0), .inr (0, [.ref (g.2.2.2 0 0), .ref (g.2.2.2 0 1), .ref (g.2.2.2 0 2), .ref (g.2.2.2 0 3), .int (S0.1 4), .int (S0.1 5), .int (S0.1 6), .int (S0.1 7)])),
  ((g.2.2.2 0 0), .inl (g.2.1.1, 8, .inl (S0.2.2 0))),
  ((g.2.2.2 0 1), .inl (g.2.1.1, 8, .inl (S0.2.2 1))),
  ((g.2.2.2 0 2), .inl (g.2.1.1, 8, .inl (S0.2.2 2))),
  ((g.2.2.2 0 3), .inl (g.2.1.1, 8, .inl (S0.2.2 3)))]
abbrev wd_7_5_6_2_4_3_0 (g : En) (S7 : St) (S5 : St) (S6 : St) (S2 : St) (S4 : St) (S3 : St) (S0 : St) : va_W := [((g.2.2.1 7), .inr (7, [.ref (g.2.2.1 5), .ref (g.2.2.1 6), .ref (g.2.2.1 1), .ref (g.2.2.1 2), .ref (g.2.2.1 4), .ref (g.2.2.1 3), .ref (g.2.2.1 0), .ref (g.2.2.2 7 7), .int (S7.1 8), .int (S7.1 9), .int (S7.1 10), .long (S7.2.1 11), .long (S7.2.1 12)])),
  ((g.2.2.2 7 7), .inl (g.2.1.1, 6, .inl (S7.2.2 7))),
  ((g.2.2.1 5), .inr (5, [.ref (g.2.2.1 6), .ref (g.2.2.2 5 1), .ref (g.2.2.2 5 2), .ref (g.2.2.2 5 3), .ref (g.2.2.2 5 4), .ref (g.2.2.2 5 5), .ref (g.2.2.2 5 6), .ref (g.2.2.2 5 7), .ref (g.2.2.2 5 8), .ref (g.2.2.2 5 9), .int (S5.1 10), .int (S5.1 11), .int (S5.1 12), .int (S5.1 13), .int (S5.1 14)])),
  ((g.2.2.2 5 1), .inl (g.2.1.1, 10, .inl (S5.2.2 1))),
  ((g.2.2.2 5 2), .inl (g.2.1.1, 24, .inl (S5.2.2 2))),
  ((g.2.2.2 5 3), .inl (g.2.1.1, 24, .inl (S5.2.2 3))),
  ((g.2.2.2 5 4), .inl (g.2.1.1, 24, .inl (S5.2.2 4))),
  ((g.2.2.2 5 5), .inl (g.2.1.1, 24, .inl (S5.2.2 5))),
  ((g.2.2.2 5 6), .inl (g.2.1.1, 24, .inl (S5.2.2 6))),
  ((g.2.2.2 5 7), .inl (g.2.1.1, 24, .inl (S5.2.2 7))),
  ((g.2.2.2 5 8), .inl (g.2.1.1, 24, .inl (S5.2.2 8))),
  ((g.2.2.2 5 9), .inl (g.2.1.1, 24, .inl (S5.2.2 9))),
  ((g.2.2.1 6), .inr (6, [.ref (g.2.2.2 6 0), .ref (g.2.2.2 6 1)])),
  ((g.2.2.2 6 0), .inl (g.2.1.1, 6, .inl (S6.2.2 0))),
  ((g.2.2.2 6 1), .inl (g.2.1.2.1, 240, .inl (S6.2.2 1))),
  ((g.2.2.1 2), .inr (2, [.ref (g.2.2.2 2 0), .ref (g.2.2.2 2 1), .ref (g.2.2.2 2 2), .ref (g.2.2.2 2 3), .ref (g.2.2.2 2 4), .ref (g.2.2.2 2 5), .ref (g.2.2.2 2 6), .ref (g.2.2.2 2 7), .int (S2.1 8), .int (S2.1 9)])),
  ((g.2.2.2 2 0), .inl (g.2.1.1, 4, .inl (S2.2.2 0))),
  ((g.2.2.2 2 1), .inl (g.2.1.1, 10, .inl (S2.2.2 1))),
  ((g.2.2.2 2 2), .inl (g.2.1.1, 10, .inl (S2.2.2 2))),
  ((g.2.2.2 2 3), .inl (g.2.1.1, 10, .inl (S2.2.2 3))),
  ((g.2.2.2 2 4), .inl (g.2.1.1, 40, .inl (S2.2.2 4))),
  ((g.2.2.2 2 5), .inl (g.2.1.1, 10, .inl (S2.2.2 5))),
  ((g.2.2.2 2 6), .inl (g.2.1.2.2, 10, .inl (S2.2.2 6))),
  ((g.2.2.2 2 7), .inl (g.2.1.2.2, 4, .inl (S2.2.2 7))),
  ((g.2.2.1 4), .inr (4, [.ref (g.2.2.2 4 0), .ref (g.2.2.2 4 1), .int (S4.1 2), .int (S4.1 3), .int (S4.1 4)])),
  ((g.2.2.2 4 0), .inl (g.2.1.1, 20, .inl (S4.2.2 0))),
  ((g.2.2.2 4 1), .inl (g.2.1.1, 20, .inl (S4.2.2 1))),
  ((g.2.2.1 3), .inr (3, [.ref (g.2.2.2 3 0), .ref (g.2.2.2 3 1), .ref (g.2.2.2 3 2), .ref (g.2.2.2 3 3), .int (S3.1 4), .int (S3.1 5), .int (S3.1 6)])),
  ((g.2.2.2 3 0), .inl (g.2.1.1, 30, .inl (S3.2.2 0))),
  ((g.2.2.2 3 1), .inl (g.2.1.1, 30, .inl (S3.2.2 1))),
  ((g.2.2.2 3 2), .inl (g.2.1.1, 30, .inl (S3.2.2 2))),
  ((g.2.2.2 3 3), .inl (g.2.1.2.2, 30, .inl (S3.2.2 3))),
  ((g.2.2.1 0), .inr (0, [.ref (g.2.2.2 0 0), .ref (g.2.2.2 0 1), .ref (g.2.2.2 0 2), .ref (g.2.2.2 0 3), .int (S0.1 4), .int (S0.1 5), .int (S0.1 6), .int (S0.1 7)])),
  ((g.2.2.2 0 0), .inl (g.2.1.1, 8, .inl (S0.2.2 0))),
  ((g.2.2.2 0 1), .inl (g.2.1.1, 8, .inl (S0.2.2 1))),
  ((g.2.2.2 0 2), .inl (g.2.1.1, 8, .inl (S0.2.2 2))),
  ((g.2.2.2 0 3), .inl (g.2.1.1, 8, .inl (S0.2.2 3)))]
abbrev wd_8 (g : En) (S8 : St) : va_W := [((g.2.2.1 8), .inr (8, [.int (S8.1 0), .ref (g.2.2.2 8 1), .int (S8.1 2), .long (S8.2.1 3), .long (S8.2.1 4), .int (S8.1 5), .ref (g.2.2.2 8 6), .ref (g.2.2.2 8 7), .ref (g.2.2.2 8 8), .ref (g.2.2.2 8 9), .int (S8.1 10), .int (S8.1 11), .int (S8.1 12), .int (S8.1 13), .ref (g.2.2.2 8 14), .ref (g.2.2.2 8 15), .ref (g.2.2.2 8 16), .ref (g.2.2.2 8 17), .ref (g.2.2.2 8 18), .ref (g.2.2.2 8 19), .ref (g.2.2.2 8 20), .ref (g.2.2.2 8 21), .ref (g.2.2.2 8 22), .ref (g.2.2.2 8 23), .int (S8.1 24), .ref (g.2.2.2 8 25), .ref (g.2.2.2 8 26), .ref (g.2.2.2 8 27), .ref (g.2.2.2 8 28), .ref (g.2.2.2 8 29), .ref (g.2.2.2 8 30), .int (S8.1 31), .ref (g.2.2.2 8 32), .ref (g.2.2.2 8 33), .int (S8.1 34), .ref (g.2.2.2 8 35), .ref (g.2.2.2 8 36), .ref (g.2.2.2 8 37), .ref (g.2.2.2 8 38), .int (S8.1 39), .int (S8.1 40), .int (S8.1 41), .int (S8.1 42), .ref (g.2.2.2 8 43), .ref (g.2.2.2 8 44), .ref (g.2.2.2 8 45), .ref (g.2.2.2 8 46)])),
  ((g.2.2.2 8 1), .inl (g.2.1.1, 6, .inl (S8.2.2 1))),
  ((g.2.2.2 8 6), .inl (g.2.1.1, 6, .inl (S8.2.2 6))),
  ((g.2.2.2 8 7), .inl (g.2.1.2.1, 240, .inl (S8.2.2 7))),
  ((g.2.2.2 8 8), .inl (g.2.1.2.1, 40, .inl (S8.2.2 8))),
  ((g.2.2.2 8 9), .inl (g.2.1.1, 10, .inl (S8.2.2 9))),
  ((g.2.2.2 8 14), .inl (g.2.1.1, 24, .inl (S8.2.2 14))),
  ((g.2.2.2 8 15), .inl (g.2.1.1, 24, .inl (S8.2.2 15))),
  ((g.2.2.2 8 16), .inl (g.2.1.1, 24, .inl (S8.2.2 16))),
  ((g.2.2.2 8 17), .inl (g.2.1.1, 24, .inl (S8.2.2 17))),
  ((g.2.2.2 8 18), .inl (g.2.1.1, 24, .inl (S8.2.2 18))),
  ((g.2.2.2 8 19), .inl (g.2.1.1, 24, .inl (S8.2.2 19))),
  ((g.2.2.2 8 20), .inl (g.2.1.1, 24, .inl (S8.2.2 20))),
  ((g.2.2.2 8 21), .inl (g.2.1.1, 24, .inl (S8.2.2 21))),
  ((g.2.2.2 8 22), .inl (g.2.1.1, 2102, .inl (S8.2.2 22))),
  ((g.2.2.2 8 23), .inl (g.2.1.1, 4, .inl (S8.2.2 23))),
  ((g.2.2.2 8 25), .inl (g.2.1.1, 10, .inl (S8.2.2 25))),
  ((g.2.2.2 8 26), .inl (g.2.1.1, 10, .inl (S8.2.2 26))),
  ((g.2.2.2 8 27), .inl (g.2.1.1, 10, .inl (S8.2.2 27))),
  ((g.2.2.2 8 28), .inl (g.2.1.1, 40, .inl (S8.2.2 28))),
  ((g.2.2.2 8 29), .inl (g.2.1.1, 10, .inl (S8.2.2 29))),
  ((g.2.2.2 8 30), .inl (g.2.1.2.2, 10, .inl (S8.2.2 30))),
  ((g.2.2.2 8 32), .inl (g.2.1.1, 20, .inl (S8.2.2 32))),
  ((g.2.2.2 8 33), .inl (g.2.1.1, 20, .inl (S8.2.2 33))),
  ((g.2.2.2 8 35), .inl (g.2.1.1, 30, .inl (S8.2.2 35))),
  ((g.2.2.2 8 36), .inl (g.2.1.1, 30, .inl (S8.2.2 36))),
  ((g.2.2.2 8 37), .inl (g.2.1.1, 30, .inl (S8.2.2 37))),
  ((g.2.2.2 8 38), .inl (g.2.1.2.2, 30, .inl (S8.2.2 38))),
  ((g.2.2.2 8 43), .inl (g.2.1.1, 8, .inl (S8.2.2 43))),
  ((g.2.2.2 8 44), .inl (g.2.1.1, 8, .inl (S8.2.2 44))),
  ((g.2.2.2 8 45), .inl (g.2.1.1, 8, .inl (S8.2.2 45))),
  ((g.2.2.2 8 46), .inl (g.2.1.1, 8, .inl (S8.2.2 46)))]
abbrev wd_0 (g : En) (S0 : St) : va_W := [((g.2.2.1 0), .inr (0, [.ref (g.2.2.2 0 0), .ref (g.2.2.2 0 1), .ref (g.2.2.2 0 2), .ref (g.2.2.2 0 3), .int (S0.1 4), .int (S0.1 5), .int (S0.1 6), .int (S0.1 7)])),
  ((g.2.2.2 0 0), .inl (g.2.1.1, 8, .inl (S0.2.2 0))),
  ((g.2.2.2 0 1), .inl (g.2.1.1, 8, .inl (S0.2.2 1))),
  ((g.2.2.2 0 2), .inl (g.2.1.1, 8, .inl (S0.2.2 2))),
  ((g.2.2.2 0 3), .inl (g.2.1.1, 8, .inl (S0.2.2 3)))]
abbrev wd_1 (g : En) (S1 : St) : va_W := [((g.2.2.1 1), .inr (1, [.ref (g.2.2.2 1 0), .ref (g.2.2.2 1 1), .ref (g.2.2.2 1 2), .ref (g.2.2.2 1 3), .int (S1.1 4)])),
  ((g.2.2.2 1 0), .inl (g.2.1.1, 24, .inl (S1.2.2 0))),
  ((g.2.2.2 1 1), .inl (g.2.1.1, 24, .inl (S1.2.2 1))),
  ((g.2.2.2 1 2), .inl (g.2.1.1, 24, .inl (S1.2.2 2))),
  ((g.2.2.2 1 3), .inl (g.2.1.1, 24, .inl (S1.2.2 3)))]
abbrev wd_2 (g : En) (S2 : St) : va_W := [((g.2.2.1 2), .inr (2, [.ref (g.2.2.2 2 0), .ref (g.2.2.2 2 1), .ref (g.2.2.2 2 2), .ref (g.2.2.2 2 3), .ref (g.2.2.2 2 4), .ref (g.2.2.2 2 5), .ref (g.2.2.2 2 6), .ref (g.2.2.2 2 7), .int (S2.1 8), .int (S2.1 9)])),
  ((g.2.2.2 2 0), .inl (g.2.1.1, 4, .inl (S2.2.2 0))),
  ((g.2.2.2 2 1), .inl (g.2.1.1, 10, .inl (S2.2.2 1))),
  ((g.2.2.2 2 2), .inl (g.2.1.1, 10, .inl (S2.2.2 2))),
  ((g.2.2.2 2 3), .inl (g.2.1.1, 10, .inl (S2.2.2 3))),
  ((g.2.2.2 2 4), .inl (g.2.1.1, 40, .inl (S2.2.2 4))),
  ((g.2.2.2 2 5), .inl (g.2.1.1, 10, .inl (S2.2.2 5))),
  ((g.2.2.2 2 6), .inl (g.2.1.2.2, 10, .inl (S2.2.2 6))),
  ((g.2.2.2 2 7), .inl (g.2.1.2.2, 4, .inl (S2.2.2 7)))]
abbrev wd_3 (g : En) (S3 : St) : va_W := [((g.2.2.1 3), .inr (3, [.ref (g.2.2.2 3 0), .ref (g.2.2.2 3 1), .ref (g.2.2.2 3 2), .ref (g.2.2.2 3 3), .int (S3.1 4), .int (S3.1 5), .int (S3.1 6)])),
  ((g.2.2.2 3 0), .inl (g.2.1.1, 30, .inl (S3.2.2 0))),
  ((g.2.2.2 3 1), .inl (g.2.1.1, 30, .inl (S3.2.2 1))),
  ((g.2.2.2 3 2), .inl (g.2.1.1, 30, .inl (S3.2.2 2))),
  ((g.2.2.2 3 3), .inl (g.2.1.2.2, 30, .inl (S3.2.2 3)))]
abbrev wd_4 (g : En) (S4 : St) : va_W := [((g.2.2.1 4), .inr (4, [.ref (g.2.2.2 4 0), .ref (g.2.2.2 4 1), .int (S4.1 2), .int (S4.1 3), .int (S4.1 4)])),
  ((g.2.2.2 4 0), .inl (g.2.1.1, 20, .inl (S4.2.2 0))),
  ((g.2.2.2 4 1), .inl (g.2.1.1, 20, .inl (S4.2.2 1)))]
abbrev wd_5_6 (g : En) (S5 : St) (S6 : St) : va_W := [((g.2.2.1 5), .inr (5, [.ref (g.2.2.1 6), .ref (g.2.2.2 5 1), .ref (g.2.2.2 5 2), .ref (g.2.2.2 5 3), .ref (g.2.2.2 5 4), .ref (g.2.2.2 5 5), .ref (g.2.2.2 5 6), .ref (g.2.2.2 5 7), .ref (g.2.2.2 5 8), .ref (g.2.2.2 5 9), .int (S5.1 10), .int (S5.1 11), .int (S5.1 12), .int (S5.1 13), .int (S5.1 14)])),
  ((g.2.2.2 5 1), .inl (g.2.1.1, 10, .inl (S5.2.2 1))),
  ((g.2.2.2 5 2), .inl (g.2.1.1, 24, .inl (S5.2.2 2))),
  ((g.2.2.2 5 3), .inl (g.2.1.1, 24, .inl (S5.2.2 3))),
  ((g.2.2.2 5 4), .inl (g.2.1.1, 24, .inl (S5.2.2 4))),
  ((g.2.2.2 5 5), .inl (g.2.1.1, 24, .inl (S5.2.2 5))),
  ((g.2.2.2 5 6), .inl (g.2.1.1, 24, .inl (S5.2.2 6))),
  ((g.2.2.2 5 7), .inl (g.2.1.1, 24, .inl (S5.2.2 7))),
  ((g.2.2.2 5 8), .inl (g.2.1.1, 24, .inl (S5.2.2 8))),
  ((g.2.2.2 5 9), .inl (g.2.1.1, 24, .inl (S5.2.2 9))),
  ((g.2.2.1 6), .inr (6, [.ref (g.2.2.2 6 0), .ref (g.2.2.2 6 1)])),
  ((g.2.2.2 6 0), .inl (g.2.1.1, 6, .inl (S6.2.2 0))),
  ((g.2.2.2 6 1), .inl (g.2.1.2.1, 240, .inl (S6.2.2 1)))]
abbrev wd_5 (g : En) (S5 : St) : va_W := [((g.2.2.1 5), .inr (5, [.ref (g.2.2.1 6), .ref (g.2.2.2 5 1), .ref (g.2.2.2 5 2), .ref (g.2.2.2 5 3), .ref (g.2.2.2 5 4), .ref (g.2.2.2 5 5), .ref (g.2.2.2 5 6), .ref (g.2.2.2 5 7), .ref (g.2.2.2 5 8), .ref (g.2.2.2 5 9), .int (S5.1 10), .int (S5.1 11), .int (S5.1 12), .int (S5.1 13), .int (S5.1 14)])),
  ((g.2.2.2 5 1), .inl (g.2.1.1, 10, .inl (S5.2.2 1))),
  ((g.2.2.2 5 2), .inl (g.2.1.1, 24, .inl (S5.2.2 2))),
  ((g.2.2.2 5 3), .inl (g.2.1.1, 24, .inl (S5.2.2 3))),
  ((g.2.2.2 5 4), .inl (g.2.1.1, 24, .inl (S5.2.2 4))),
  ((g.2.2.2 5 5), .inl (g.2.1.1, 24, .inl (S5.2.2 5))),
  ((g.2.2.2 5 6), .inl (g.2.1.1, 24, .inl (S5.2.2 6))),
  ((g.2.2.2 5 7), .inl (g.2.1.1, 24, .inl (S5.2.2 7))),
  ((g.2.2.2 5 8), .inl (g.2.1.1, 24, .inl (S5.2.2 8))),
  ((g.2.2.2 5 9), .inl (g.2.1.1, 24, .inl (S5.2.2 9)))]
abbrev wd_5_6_1 (g : En) (S5 : St) (S6 : St) (S1 : St) : va_W := [((g.2.2.1 5), .inr (5, [.ref (g.2.2.1 6), .ref (g.2.2.2 5 1), .ref (g.2.2.2 5 2), .ref (g.2.2.2 5 3), .ref (g.2.2.2 5 4), .ref (g.2.2.2 5 5), .ref (g.2.2.2 5 6), .ref (g.2.2.2 5 7), .ref (g.2.2.2 5 8), .ref (g.2.2.2 5 9), .int (S5.1 10), .int (S5.1 11), .int (S5.1 12), .int (S5.1 13), .int (S5.1 14)])),
  ((g.2.2.2 5 1), .inl (g.2.1.1, 10, .inl (S5.2.2 1))),
  ((g.2.2.2 5 2), .inl (g.2.1.1, 24, .inl (S5.2.2 2))),
  ((g.2.2.2 5 3), .inl (g.2.1.1, 24, .inl (S5.2.2 3))),
  ((g.2.2.2 5 4), .inl (g.2.1.1, 24, .inl (S5.2.2 4))),
  ((g.2.2.2 5 5), .inl (g.2.1.1, 24, .inl (S5.2.2 5))),
  ((g.2.2.2 5 6), .inl (g.2.1.1, 24, .inl (S5.2.2 6))),
  ((g.2.2.2 5 7), .inl (g.2.1.1, 24, .inl (S5.2.2 7))),
  ((g.2.2.2 5 8), .inl (g.2.1.1, 24, .inl (S5.2.2 8))),
  ((g.2.2.2 5 9), .inl (g.2.1.1, 24, .inl (S5.2.2 9))),
  ((g.2.2.1 6), .inr (6, [.ref (g.2.2.2 6 0), .ref (g.2.2.2 6 1)])),
  ((g.2.2.2 6 0), .inl (g.2.1.1, 6, .inl (S6.2.2 0))),
  ((g.2.2.2 6 1), .inl (g.2.1.2.1, 240, .inl (S6.2.2 1))),
  ((g.2.2.1 1), .inr (1, [.ref (g.2.2.2 1 0), .ref (g.2.2.2 1 1), .ref (g.2.2.2 1 2), .ref (g.2.2.2 1 3), .int (S1.1 4)])),
  ((g.2.2.2 1 0), .inl (g.2.1.1, 24, .inl (S1.2.2 0))),
  ((g.2.2.2 1 1), .inl (g.2.1.1, 24, .inl (S1.2.2 1))),
  ((g.2.2.2 1 2), .inl (g.2.1.1, 24, .inl (S1.2.2 2))),
  ((g.2.2.2 1 3), .inl (g.2.1.1, 24, .inl (S1.2.2 3)))]
abbrev wd_6 (g : En) (S6 : St) : va_W := [((g.2.2.1 6), .inr (6, [.ref (g.2.2.2 6 0), .ref (g.2.2.2 6 1)])),
  ((g.2.2.2 6 0), .inl (g.2.1.1, 6, .inl (S6.2.2 0))),
  ((g.2.2.2 6 1), .inl (g.2.1.2.1, 240, .inl (S6.2.2 1)))]
abbrev wd_2_0 (g : En) (S2 : St) (S0 : St) : va_W := [((g.2.2.1 2), .inr (2, [.ref (g.2.2.2 2 0), .ref (g.2.2.2 2 1), .ref (g.2.2.2 2 2), .ref (g.2.2.2 2 3), .ref (g.2.2.2 2 4), .ref (g.2.2.2 2 5), .ref (g.2.2.2 2 6), .ref (g.2.2.2 2 7), .int (S2.1 8), .int (S2.1 9)])),
  ((g.2.2.2 2 0), .inl (g.2.1.1, 4, .inl (S2.2.2 0))),
  ((g.2.2.2 2 1), .inl (g.2.1.1, 10, .inl (S2.2.2 1))),
  ((g.2.2.2 2 2), .inl (g.2.1.1, 10, .inl (S2.2.2 2))),
  ((g.2.2.2 2 3), .inl (g.2.1.1, 10, .inl (S2.2.2 3))),
  ((g.2.2.2 2 4), .inl (g.2.1.1, 40, .inl (S2.2.2 4))),
  ((g.2.2.2 2 5), .inl (g.2.1.1, 10, .inl (S2.2.2 5))),
  ((g.2.2.2 2 6), .inl (g.2.1.2.2, 10, .inl (S2.2.2 6))),
  ((g.2.2.2 2 7), .inl (g.2.1.2.2, 4, .inl (S2.2.2 7))),
  ((g.2.2.1 0), .inr (0, [.ref (g.2.2.2 0 0), .ref (g.2.2.2 0 1), .ref (g.2.2.2 0 2), .ref (g.2.2.2 0 3), .int (S0.1 4), .int (S0.1 5), .int (S0.1 6), .int (S0.1 7)])),
  ((g.2.2.2 0 0), .inl (g.2.1.1, 8, .inl (S0.2.2 0))),
  ((g.2.2.2 0 1), .inl (g.2.1.1, 8, .inl (S0.2.2 1))),
  ((g.2.2.2 0 2), .inl (g.2.1.1, 8, .inl (S0.2.2 2))),
  ((g.2.2.2 0 3), .inl (g.2.1.1, 8, .inl (S0.2.2 3)))]
def f_X6_make_9_b (N : Nat) (k9 : St → Int32 → Int32 → Int32 → Option (St)) (S6 : St) (x1 : Int32) (x2 : Int32) (x3 : Int32) : Option (St) := (if x2 ≤ x3 then some (S6) else (if inb ((x1 * 40) + x3) 240 = true then (k9 (sA S6 1 (upd (S6.2.2 1) (Int32.toNatClampNeg ((x1 * 40) + x3)) (vp_nar .byte 0))) x1 x2 (x3 + 1)) else none))
def f_X6_make_9 (N : Nat) : Nat → St → Int32 → Int32 → Int32 → Option (St)
  | 0, _, _, _, _ => none
  | n + 1, y0, y1, y2, y3 => f_X6_make_9_b N   (fun y0 y1 y2 y3 => f_X6_make_9 N   n y0 y1 y2 y3) y0 y1 y2 y3
def f_X6_make (N : Nat) (S6 : St) (x1 : Int32) (x2 : Int32) : Option (St) := (if inb x1 6 = true then (f_X6_make_9 N   N (sA S6 0 (upd (S6.2.2 0) (Int32.toNatClampNeg x1) x2)) x1 x2 0) else none)
def f_X6_isMissing (N : Nat) (S6 : St) (x1 : Int32) : Option (Int32) := (if inb x1 6 = true then (if ((S6.2.2 0) (Int32.toNatClampNeg x1)) = (-1) then some (1) else some (0)) else none)
def f_X6_hasRun (N : Nat) (S6 : St) (x1 : Int32) (x2 : Int32) (x3 : Int32) : Option (Int32) := (if x2 < 0 then some (0) else (if inb x1 6 = true then (if ((S6.2.2 0) (Int32.toNatClampNeg x1)) < x2 then some (0) else (if x3 < 0 then some (0) else (if inb x1 6 = true then (if (((S6.2.2 0) (Int32.toNatClampNeg x1)) - x2) < x3 then some (0) else some (1)) else none))) else none))
def f_X6_swap (N : Nat) (S6 : St) (x1 : Int32) (x2 : Int32) (x3 : Int32) : Option (Int32 × St) := (if inb ((x1 * 40) + x2) 240 = true then (if inb ((x1 * 40) + x2) 240 = true then some (((S6.2.2 1) (Int32.toNatClampNeg ((x1 * 40) + x2))), (sA S6 1 (upd (S6.2.2 1) (Int32.toNatClampNeg ((x1 * 40) + x2)) (vp_nar .byte x3)))) else none) else none)
def f_X6_drop (N : Nat) (S6 : St) (x1 : Int32) : Option (St) := (if inb x1 6 = true then some ((sA S6 0 (upd (S6.2.2 0) (Int32.toNatClampNeg x1) (-1)))) else none)
def f_X6_move (N : Nat) (S6 : St) (x1 : Int32) (x2 : Int32) (x3 : Int32) (x4 : Int32) (x5 : Int32) : Option (St) := (if acp ((x1 * 40) + x2) ((x3 * 40) + x4) x5 240 (S6.2.2 1) = true then some ((sA S6 1 (va_cpy (S6.2.2 1) (S6.2.2 1) (Int32.toNatClampNeg ((x1 * 40) + x2)) (Int32.toNatClampNeg ((x3 * 40) + x4)) (Int32.toNatClampNeg x5)))) else none)
def f_X6_canMatch (N : Nat) (S6 : St) (x1 : Int32) (x2 : Int32) : Option (Int32) := (if inb x1 6 = true then (if ((S6.2.2 0) (Int32.toNatClampNeg x1)) ≤ 0 then some (0) else (if inb x2 6 = true then (if inb x1 6 = true then (if ((S6.2.2 0) (Int32.toNatClampNeg x2)) < ((S6.2.2 0) (Int32.toNatClampNeg x1)) then some (0) else some (1)) else none) else none)) else none)
def f_X6_offAt_20_b (N : Nat) (S6 : St) (k20 : Int32 → Int32 → Int32 → Int32 → Int32 → Option (Int32)) (x1 : Int32) (x4 : Int32) (x5 : Int32) (x6 : Int32) (x7 : Int32) : Option (Int32) := (if inb x1 6 = true then (if ((S6.2.2 0) (Int32.toNatClampNeg x1)) ≤ x7 then some (x6) else (if inb (x4 + x7) 240 = true then (if inb (x5 + x7) 240 = true then (k20 x1 x4 x5 (x6 + (if 0 ≤ (((S6.2.2 1) (Int32.toNatClampNeg (x4 + x7))) - ((S6.2.2 1) (Int32.toNatClampNeg (x5 + x7)))) then (((S6.2.2 1) (Int32.toNatClampNeg (x4 + x7))) - ((S6.2.2 1) (Int32.toNatClampNeg (x5 + x7)))) else 0 - (((S6.2.2 1) (Int32.toNatClampNeg (x4 + x7))) - ((S6.2.2 1) (Int32.toNatClampNeg (x5 + x7)))))) (x7 + 1)) else none) else none)) else none)
def f_X6_offAt_20 (N : Nat) (S6 : St) : Nat → Int32 → Int32 → Int32 → Int32 → Int32 → Option (Int32)
  | 0, _, _, _, _, _ => none
  | n + 1, y0, y1, y2, y3, y4 => f_X6_offAt_20_b N S6  (fun y0 y1 y2 y3 y4 => f_X6_offAt_20 N S6  n y0 y1 y2 y3 y4) y0 y1 y2 y3 y4
def f_X6_offAt (N : Nat) (S6 : St) (x1 : Int32) (x2 : Int32) (x3 : Int32) : Option (Int32) := (f_X6_offAt_20 N S6  N x1 (x1 * 40) ((x2 * 40) + x3) 0 0)
def f_X6_bestPlace_56 (N : Nat) (S6 : St) (k14 : Int32 → Int32 → Int32 → Int32 → Int32 → Option (Int32)) (x1 : Int32) (x2 : Int32) (x3 : Int32) (x4 : Int32) (x5 : Int32) : Option (Int32) := (k14 x1 x2 x3 x4 (x5 + 1))
def f_X6_bestPlace_14_b (N : Nat) (S6 : St) (k14 : Int32 → Int32 → Int32 → Int32 → Int32 → Option (Int32)) (x1 : Int32) (x2 : Int32) (x3 : Int32) (x4 : Int32) (x5 : Int32) : Option (Int32) := (if inb x2 6 = true then (if inb x1 6 = true then (if (((S6.2.2 0) (Int32.toNatClampNeg x2)) - ((S6.2.2 0) (Int32.toNatClampNeg x1))) < x5 then some (x3) else ((f_X6_offAt N S6 x1 x2 x5).bind (fun r37 => (if x4 ≤ r37 then (f_X6_bestPlace_56 N S6 k14 x1 x2 x3 x4 x5) else (f_X6_bestPlace_56 N S6 k14 x1 x2 x5 r37 x5))))) else none) else none)
def f_X6_bestPlace_14 (N : Nat) (S6 : St) : Nat → Int32 → Int32 → Int32 → Int32 → Int32 → Option (Int32)
  | 0, _, _, _, _, _ => none
  | n + 1, y0, y1, y2, y3, y4 => f_X6_bestPlace_14_b N S6  (fun y0 y1 y2 y3 y4 => f_X6_bestPlace_14 N S6  n y0 y1 y2 y3 y4) y0 y1 y2 y3 y4
def f_X6_bestPlace (N : Nat) (S6 : St) (x1 : Int32) (x2 : Int32) : Option (Int32) := ((f_X6_offAt N S6 x1 x2 0).bind (fun r6 => (f_X6_bestPlace_14 N S6  N x1 x2 0 r6 1)))
def f_X6_isSure_88 (N : Nat) (S6 : St) (k27 : Int32 → Int32 → Int32 → Int32 → Option (Int32)) (x1 : Int32) (x2 : Int32) (x3 : Int32) (x4 : Int32) : Option (Int32) := (k27 x1 x2 x3 (x4 + 1))
def f_X6_isSure_61 (N : Nat) (S6 : St) (k27 : Int32 → Int32 → Int32 → Int32 → Option (Int32)) (x1 : Int32) (x2 : Int32) (x3 : Int32) (x4 : Int32) (t0 : Int32) : Option (Int32) := (if t0 = 0 then (f_X6_isSure_88 N S6 k27 x1 x2 x3 x4) else ((f_X6_bestPlace N S6 x1 x4).bind (fun r76 => ((f_X6_offAt N S6 x1 x4 r76).bind (fun r79 => (if x3 < r79 then (f_X6_isSure_88 N S6 k27 x1 x2 x3 x4) else some (0)))))))
def f_X6_isSure_60 (N : Nat) (S6 : St) (k27 : Int32 → Int32 → Int32 → Int32 → Option (Int32)) (x1 : Int32) (x2 : Int32) (x3 : Int32) (x4 : Int32) : Option (Int32) := (f_X6_isSure_61 N S6 k27 x1 x2 x3 x4 0)
def f_X6_isSure_27_b (N : Nat) (S6 : St) (k27 : Int32 → Int32 → Int32 → Int32 → Option (Int32)) (x1 : Int32) (x2 : Int32) (x3 : Int32) (x4 : Int32) : Option (Int32) := (if 6 ≤ x4 then some (1) else (if x4 = x1 then (f_X6_isSure_60 N S6 k27 x1 x2 x3 x4) else (if x4 = x2 then (f_X6_isSure_60 N S6 k27 x1 x2 x3 x4) else ((f_X6_canMatch N S6 x1 x4).bind (fun r50 => (if r50 = 0 then (f_X6_isSure_60 N S6 k27 x1 x2 x3 x4) else (f_X6_isSure_61 N S6 k27 x1 x2 x3 x4 1)))))))
def f_X6_isSure_27 (N : Nat) (S6 : St) : Nat → Int32 → Int32 → Int32 → Int32 → Option (Int32)
  | 0, _, _, _, _ => none
  | n + 1, y0, y1, y2, y3 => f_X6_isSure_27_b N S6  (fun y0 y1 y2 y3 => f_X6_isSure_27 N S6  n y0 y1 y2 y3) y0 y1 y2 y3
def f_X6_isSure (N : Nat) (S6 : St) (x1 : Int32) (x2 : Int32) : Option (Int32) := ((f_X6_canMatch N S6 x1 x2).bind (fun r3 => (if r3 = 0 then some (0) else ((f_X6_bestPlace N S6 x1 x2).bind (fun r17 => ((f_X6_offAt N S6 x1 x2 r17).bind (fun r20 => (f_X6_isSure_27 N S6  N x1 x2 r20 0))))))))
def f_X6_mixInto_25_b (N : Nat) (S6 : St) (k2 : Int64 → Int32 → Option (Int64)) (k25 : Int64 → Int32 → Int32 → Option (Int64)) (x1 : Int64) (x3 : Int32) (x4 : Int32) : Option (Int64) := (if inb x3 6 = true then (if ((S6.2.2 0) (Int32.toNatClampNeg x3)) ≤ x4 then (k2 x1 (x3 + 1)) else (if inb ((x3 * 40) + x4) 240 = true then (k25 ((31 * x1) + (Int32.toInt64 ((S6.2.2 1) (Int32.toNatClampNeg ((x3 * 40) + x4))))) x3 (x4 + 1)) else none)) else none)
def f_X6_mixInto_25 (N : Nat) (S6 : St) (k2 : Int64 → Int32 → Option (Int64)) : Nat → Int64 → Int32 → Int32 → Option (Int64)
  | 0, _, _, _ => none
  | n + 1, y0, y1, y2 => f_X6_mixInto_25_b N S6 k2 (fun y0 y1 y2 => f_X6_mixInto_25 N S6 k2 n y0 y1 y2) y0 y1 y2
def f_X6_mixInto_2_b (N : Nat) (S6 : St) (k2 : Int64 → Int32 → Option (Int64)) (x1 : Int64) (x3 : Int32) : Option (Int64) := (if 6 ≤ x3 then some (x1) else (if inb x3 6 = true then (f_X6_mixInto_25 N S6 k2 N ((31 * x1) + (Int32.toInt64 ((S6.2.2 0) (Int32.toNatClampNeg x3)))) x3 0) else none))
def f_X6_mixInto_2 (N : Nat) (S6 : St) : Nat → Int64 → Int32 → Option (Int64)
  | 0, _, _ => none
  | n + 1, y0, y1 => f_X6_mixInto_2_b N S6  (fun y0 y1 => f_X6_mixInto_2 N S6  n y0 y1) y0 y1
def f_X6_mixInto (N : Nat) (S6 : St) (x1 : Int64) : Option (Int64) := (f_X6_mixInto_2 N S6  N x1 0)

def f_X1_add (N : Nat) (S1 : St) (x1 : Int32) (x2 : Int32) (x3 : Int32) (x4 : Int32) : Option (St) := (if inb (S1.1 4) 24 = true then (if inb (S1.1 4) 24 = true then (if inb (S1.1 4) 24 = true then (if inb (S1.1 4) 24 = true then some ((sI (sA (sA (sA (sA S1 0 (upd (S1.2.2 0) (Int32.toNatClampNeg (S1.1 4)) x1)) 1 (upd (S1.2.2 1) (Int32.toNatClampNeg (S1.1 4)) x2)) 2 (upd (S1.2.2 2) (Int32.toNatClampNeg (S1.1 4)) x3)) 3 (upd (S1.2.2 3) (Int32.toNatClampNeg (S1.1 4)) x4)) 4 ((S1.1 4) + 1))) else none) else none) else none) else none)
def f_X1_firstCommonYear_6_b (N : Nat) (S1 : St) (k6 : Int32 → Int32 → Option (Int32)) (x1 : Int32) (x2 : Int32) : Option (Int32) := (if (S1.1 4) ≤ x2 then some (x1) else (if inb x2 24 = true then (k6 (if x1 < ((S1.2.2 1) (Int32.toNatClampNeg x2)) then ((S1.2.2 1) (Int32.toNatClampNeg x2)) else x1) (x2 + 1)) else none))
def f_X1_firstCommonYear_6 (N : Nat) (S1 : St) : Nat → Int32 → Int32 → Option (Int32)
  | 0, _, _ => none
  | n + 1, y0, y1 => f_X1_firstCommonYear_6_b N S1  (fun y0 y1 => f_X1_firstCommonYear_6 N S1  n y0 y1) y0 y1
def f_X1_firstCommonYear (N : Nat) (S1 : St) : Option (Int32) := (f_X1_firstCommonYear_6 N S1  N 1000 0)
def f_X1_lastCommonYear_6_b (N : Nat) (S1 : St) (k6 : Int32 → Int32 → Option (Int32)) (x1 : Int32) (x2 : Int32) : Option (Int32) := (if (S1.1 4) ≤ x2 then some (x1) else (if inb x2 24 = true then (k6 (if ((S1.2.2 2) (Int32.toNatClampNeg x2)) < x1 then ((S1.2.2 2) (Int32.toNatClampNeg x2)) else x1) (x2 + 1)) else none))
def f_X1_lastCommonYear_6 (N : Nat) (S1 : St) : Nat → Int32 → Int32 → Option (Int32)
  | 0, _, _ => none
  | n + 1, y0, y1 => f_X1_lastCommonYear_6_b N S1  (fun y0 y1 => f_X1_lastCommonYear_6 N S1  n y0 y1) y0 y1
def f_X1_lastCommonYear (N : Nat) (S1 : St) : Option (Int32) := (f_X1_lastCommonYear_6 N S1  N 2100 0)
def f_X1_opponentAfter_4_b (N : Nat) (S1 : St) (k4 : Int32 → Int32 → Option (Int32)) (x1 : Int32) (x2 : Int32) : Option (Int32) := (if (S1.1 4) ≤ x2 then some ((-9)) else (if inb x2 24 = true then (if inb x1 24 = true then (if ((S1.2.2 2) (Int32.toNatClampNeg x1)) < ((S1.2.2 1) (Int32.toNatClampNeg x2)) then some (x2) else (if inb x1 24 = true then (if inb x2 24 = true then (if ((S1.2.2 1) (Int32.toNatClampNeg x1)) ≤ ((S1.2.2 2) (Int32.toNatClampNeg x2)) then (k4 x1 (x2 + 1)) else some (x2)) else none) else none)) else none) else none))
def f_X1_opponentAfter_4 (N : Nat) (S1 : St) : Nat → Int32 → Int32 → Option (Int32)
  | 0, _, _ => none
  | n + 1, y0, y1 => f_X1_opponentAfter_4_b N S1  (fun y0 y1 => f_X1_opponentAfter_4 N S1  n y0 y1) y0 y1
def f_X1_opponentAfter (N : Nat) (S1 : St) (x1 : Int32) : Option (Int32) := (f_X1_opponentAfter_4 N S1  N x1 (x1 + 1))
def f_X1_holds (N : Nat) (S1 : St) (x1 : Int32) (x2 : Int32) : Option (Int32) := (if inb x1 24 = true then (if x2 < ((S1.2.2 1) (Int32.toNatClampNeg x1)) then some (0) else (if inb x1 24 = true then (if ((S1.2.2 2) (Int32.toNatClampNeg x1)) < x2 then some (0) else some (1)) else none)) else none)
def f_X1_weightOn_30 (N : Nat) (S1 : St) (k4 : Int32 → Int32 → Int32 → Option (Int32)) (x1 : Int32) (x2 : Int32) (x3 : Int32) : Option (Int32) := (k4 x1 x2 (x3 + 1))
def f_X1_weightOn_4_b (N : Nat) (S1 : St) (k4 : Int32 → Int32 → Int32 → Option (Int32)) (x1 : Int32) (x2 : Int32) (x3 : Int32) : Option (Int32) := (if (S1.1 4) ≤ x3 then some (x2) else ((f_X1_holds N S1 x3 x1).bind (fun r15 => (if r15 = 0 then (f_X1_weightOn_30 N S1 k4 x1 x2 x3) else (if inb x3 24 = true then (f_X1_weightOn_30 N S1 k4 x1 (x2 + ((S1.2.2 3) (Int32.toNatClampNeg x3))) x3) else none)))))
def f_X1_weightOn_4 (N : Nat) (S1 : St) : Nat → Int32 → Int32 → Int32 → Option (Int32)
  | 0, _, _, _ => none
  | n + 1, y0, y1, y2 => f_X1_weightOn_4_b N S1  (fun y0 y1 y2 => f_X1_weightOn_4 N S1  n y0 y1 y2) y0 y1 y2
def f_X1_weightOn (N : Nat) (S1 : St) (x1 : Int32) : Option (Int32) := (f_X1_weightOn_4 N S1  N x1 0 0)
def f_X1_heaviestYear_66 (N : Nat) (S1 : St) (k14 : Int32 → Int32 → Int32 → Option (Int32)) (x1 : Int32) (x2 : Int32) (x3 : Int32) : Option (Int32) := (k14 x1 x2 (x3 + 1))
def f_X1_heaviestYear_56 (N : Nat) (S1 : St) (k14 : Int32 → Int32 → Int32 → Option (Int32)) (x3 : Int32) (x4 : Int32) : Option (Int32) := (if inb x3 24 = true then (f_X1_heaviestYear_66 N S1 k14 ((S1.2.2 1) (Int32.toNatClampNeg x3)) x4 x3) else none)
def f_X1_heaviestYear_14_b (N : Nat) (S1 : St) (k14 : Int32 → Int32 → Int32 → Option (Int32)) (x1 : Int32) (x2 : Int32) (x3 : Int32) : Option (Int32) := (if (S1.1 4) ≤ x3 then some (x1) else (if inb x3 24 = true then ((f_X1_weightOn N S1 ((S1.2.2 1) (Int32.toNatClampNeg x3))).bind (fun r29 => (if x2 < r29 then (f_X1_heaviestYear_56 N S1 k14 x3 r29) else (if r29 = x2 then (if inb x3 24 = true then (if x1 ≤ ((S1.2.2 1) (Int32.toNatClampNeg x3)) then (f_X1_heaviestYear_66 N S1 k14 x1 x2 x3) else (f_X1_heaviestYear_56 N S1 k14 x3 r29)) else none) else (f_X1_heaviestYear_66 N S1 k14 x1 x2 x3))))) else none))
def f_X1_heaviestYear_14 (N : Nat) (S1 : St) : Nat → Int32 → Int32 → Int32 → Option (Int32)
  | 0, _, _, _ => none
  | n + 1, y0, y1, y2 => f_X1_heaviestYear_14_b N S1  (fun y0 y1 y2 => f_X1_heaviestYear_14 N S1  n y0 y1 y2) y0 y1 y2
def f_X1_heaviestYear (N : Nat) (S1 : St) : Option (Int32) := ((f_X1_weightOn N S1 1000).bind (fun r8 => (f_X1_heaviestYear_14 N S1  N 1000 r8 0)))
def f_X1_setWithout_32 (N : Nat) (S1 : St) (k4 : Int32 → Int32 → Int32 → Option (Int32)) (x1 : Int32) (x2 : Int32) (x3 : Int32) : Option (Int32) := (k4 x1 x2 (x3 + 1))
def f_X1_setWithout_4_b (N : Nat) (S1 : St) (k4 : Int32 → Int32 → Int32 → Option (Int32)) (x1 : Int32) (x2 : Int32) (x3 : Int32) : Option (Int32) := (if (S1.1 4) ≤ x3 then some (x2) else ((f_X1_holds N S1 x3 x1).bind (fun r15 => (if r15 = 0 then (if inb x3 24 = true then (f_X1_setWithout_32 N S1 k4 x1 (x2 ||| (1 <<< (((S1.2.2 0) (Int32.toNatClampNeg x3)) &&& 31))) x3) else none) else (f_X1_setWithout_32 N S1 k4 x1 x2 x3)))))
def f_X1_setWithout_4 (N : Nat) (S1 : St) : Nat → Int32 → Int32 → Int32 → Option (Int32)
  | 0, _, _, _ => none
  | n + 1, y0, y1, y2 => f_X1_setWithout_4_b N S1  (fun y0 y1 y2 => f_X1_setWithout_4 N S1  n y0 y1 y2) y0 y1 y2
def f_X1_setWithout (N : Nat) (S1 : St) (x1 : Int32) : Option (Int32) := (f_X1_setWithout_4 N S1  N x1 0 0)
def f_X1_weightOfAll_4_b (N : Nat) (S1 : St) (k4 : Int32 → Int32 → Option (Int32)) (x1 : Int32) (x2 : Int32) : Option (Int32) := (if (S1.1 4) ≤ x2 then some (x1) else (if inb x2 24 = true then (k4 (x1 + ((S1.2.2 3) (Int32.toNatClampNeg x2))) (x2 + 1)) else none))
def f_X1_weightOfAll_4 (N : Nat) (S1 : St) : Nat → Int32 → Int32 → Option (Int32)
  | 0, _, _ => none
  | n + 1, y0, y1 => f_X1_weightOfAll_4_b N S1  (fun y0 y1 => f_X1_weightOfAll_4 N S1  n y0 y1) y0 y1
def f_X1_weightOfAll (N : Nat) (S1 : St) : Option (Int32) := (f_X1_weightOfAll_4 N S1  N 0 0)

def f_X5_swapPaintYear (N : Nat) (S5 : St) (x1 : Int32) (x2 : Int32) : Option (Int32 × St) := (if inb x1 10 = true then (if inb x1 10 = true then some (((S5.2.2 1) (Int32.toNatClampNeg x1)), (sA S5 1 (upd (S5.2.2 1) (Int32.toNatClampNeg x1) x2))) else none) else none)
def f_X5_setSap (N : Nat) (S5 : St) (x1 : Int32) (x2 : Int32) (x3 : Int32) : Option (St) := some ((sI (sI (sI S5 10 x1) 11 x2) 12 x3))
def f_X5_isFull (N : Nat) (S5 : St) : Option (Int32) := (if (S5.1 13) < 24 then some (0) else some (1))
def f_X5_add (N : Nat) (S5 : St) (x1 : Int32) (x2 : Int32) (x3 : Int32) : Option (Int32 × St) := (if inb (S5.1 13) 24 = true then (if inb (S5.1 13) 24 = true then (if inb (S5.1 13) 24 = true then (if inb (S5.1 13) 24 = true then some ((((S5.1 13) + 1) - 1), (sI (sA (sA (sA (sA S5 2 (upd (S5.2.2 2) (Int32.toNatClampNeg (S5.1 13)) x1)) 3 (upd (S5.2.2 3) (Int32.toNatClampNeg (S5.1 13)) x2)) 4 (upd (S5.2.2 4) (Int32.toNatClampNeg (S5.1 13)) x3)) 5 (upd (S5.2.2 5) (Int32.toNatClampNeg (S5.1 13)) (-9))) 13 ((S5.1 13) + 1))) else none) else none) else none) else none)
def f_X5_addYears (N : Nat) (S5 : St) (x1 : Int32) (x2 : Int32) (x3 : Int32) (x4 : Int32) : Option (Int32 × St) := (if inb (S5.1 13) 24 = true then (if inb (S5.1 13) 24 = true then ((f_X5_add N (sA (sA S5 8 (upd (S5.2.2 8) (Int32.toNatClampNeg (S5.1 13)) x1)) 9 (upd (S5.2.2 9) (Int32.toNatClampNeg (S5.1 13)) x2)) 0 x3 x4).bind (fun r25 => some ((r25.1), (r25.2)))) else none) else none)
def f_X5_addPaint (N : Nat) (S5 : St) (x1 : Int32) (x2 : Int32) (x3 : Int32) : Option (Int32 × St) := (if inb (S5.1 13) 24 = true then ((f_X5_add N (sA S5 6 (upd (S5.2.2 6) (Int32.toNatClampNeg (S5.1 13)) x1)) 1 x2 x3).bind (fun r14 => some ((r14.1), (r14.2)))) else none)
def f_X5_addRings (N : Nat) (S5 : St) (x1 : Int32) (x2 : Int32) (x3 : Int32) (x4 : Int32) : Option (Int32 × St) := (if inb (S5.1 13) 24 = true then (if inb (S5.1 13) 24 = true then ((f_X5_add N (sA (sA S5 8 (upd (S5.2.2 8) (Int32.toNatClampNeg (S5.1 13)) x1)) 6 (upd (S5.2.2 6) (Int32.toNatClampNeg (S5.1 13)) x2)) 2 x3 x4).bind (fun r25 => some ((r25.1), (r25.2)))) else none) else none)
def f_X5_addThreads (N : Nat) (S5 : St) (x1 : Int32) (x2 : Int32) (x3 : Int32) (x4 : Int32) (x5 : Int32) (x6 : Int32) : Option (Int32 × St) := (if inb (S5.1 13) 24 = true then (if inb (S5.1 13) 24 = true then (if inb (S5.1 13) 24 = true then (if inb (S5.1 13) 24 = true then ((f_X5_add N (sA (sA (sA (sA S5 6 (upd (S5.2.2 6) (Int32.toNatClampNeg (S5.1 13)) x1)) 7 (upd (S5.2.2 7) (Int32.toNatClampNeg (S5.1 13)) x2)) 8 (upd (S5.2.2 8) (Int32.toNatClampNeg (S5.1 13)) x3)) 9 (upd (S5.2.2 9) (Int32.toNatClampNeg (S5.1 13)) x4)) 3 x5 x6).bind (fun r47 => some ((r47.1), (r47.2)))) else none) else none) else none) else none)
def f_X5_has (N : Nat) (S5 : St) (x1 : Int32) : Option (Int32) := (if x1 < 0 then some (0) else (if (S5.1 13) ≤ x1 then some (0) else some (1)))
def f_X5_isStruck (N : Nat) (S5 : St) (x1 : Int32) : Option (Int32) := (if inb x1 24 = true then (if ((S5.2.2 5) (Int32.toNatClampNeg x1)) = (-9) then some (0) else some (1)) else none)
def f_X5_strikeOn (N : Nat) (S5 : St) (x1 : Int32) (x2 : Int32) : Option (St) := (if inb x1 24 = true then some ((sI (sA S5 5 (upd (S5.2.2 5) (Int32.toNatClampNeg x1) x2)) 14 ((S5.1 14) + 1))) else none)
def f_X5_lacking (N : Nat) (S5 : St) (x1 : Int32) (x2 : Int32) : Option (Int32) := (if inb x1 24 = true then some ((if 0 < (x2 - ((S5.2.2 6) (Int32.toNatClampNeg x1))) then (x2 - ((S5.2.2 6) (Int32.toNatClampNeg x1))) else 0)) else none)
def f_X5_firstYear (N : Nat) (S5 : St) (S6 : St) (x1 : Int32) : Option (Int32) := (if inb x1 24 = true then (if ((S5.2.2 2) (Int32.toNatClampNeg x1)) = 1 then (if inb x1 24 = true then (if inb ((S5.2.2 6) (Int32.toNatClampNeg x1)) 10 = true then some (((S5.2.2 1) (Int32.toNatClampNeg ((S5.2.2 6) (Int32.toNatClampNeg x1))))) else none) else none) else (if ((S5.2.2 2) (Int32.toNatClampNeg x1)) = 2 then (if inb x1 24 = true then ((f_X5_lacking N S5 x1 (S5.1 10)).bind (fun r56 => some ((((S5.2.2 8) (Int32.toNatClampNeg x1)) + r56)))) else none) else (if ((S5.2.2 2) (Int32.toNatClampNeg x1)) = 3 then (if inb x1 24 = true then (if inb x1 24 = true then ((f_X6_isSure N S6 ((S5.2.2 6) (Int32.toNatClampNeg x1)) ((S5.2.2 7) (Int32.toNatClampNeg x1))).bind (fun r77 => (if r77 = 0 then some (1000) else (if inb x1 24 = true then some (((S5.2.2 8) (Int32.toNatClampNeg x1))) else none)))) else none) else none) else (if inb x1 24 = true then some (((S5.2.2 8) (Int32.toNatClampNeg x1))) else none)))) else none)
def f_X5_lastYear (N : Nat) (S5 : St) (S6 : St) (x1 : Int32) : Option (Int32) := (if inb x1 24 = true then (if ((S5.2.2 2) (Int32.toNatClampNeg x1)) = 1 then some (2100) else (if ((S5.2.2 2) (Int32.toNatClampNeg x1)) = 2 then (if inb x1 24 = true then ((f_X5_lacking N S5 x1 (S5.1 11)).bind (fun r51 => some ((if ((((S5.2.2 8) (Int32.toNatClampNeg x1)) + r51) + (S5.1 12)) < 2100 then ((((S5.2.2 8) (Int32.toNatClampNeg x1)) + r51) + (S5.1 12)) else 2100)))) else none) else (if ((S5.2.2 2) (Int32.toNatClampNeg x1)) = 3 then (if inb x1 24 = true then (if inb x1 24 = true then ((f_X6_isSure N S6 ((S5.2.2 6) (Int32.toNatClampNeg x1)) ((S5.2.2 7) (Int32.toNatClampNeg x1))).bind (fun r80 => (if r80 = 0 then some (2100) else (if inb x1 24 = true then some (((S5.2.2 9) (Int32.toNatClampNeg x1))) else none)))) else none) else none) else (if inb x1 24 = true then some (((S5.2.2 9) (Int32.toNatClampNeg x1))) else none)))) else none)
def f_X5_detail (N : Nat) (S5 : St) (S6 : St) (x1 : Int32) (x2 : Int32) : Option (Int32) := (if x2 = 0 then (if inb x1 24 = true then some (((S5.2.2 2) (Int32.toNatClampNeg x1))) else none) else (if x2 = 1 then (if inb x1 24 = true then some (((S5.2.2 3) (Int32.toNatClampNeg x1))) else none) else (if x2 = 2 then (if inb x1 24 = true then some (((S5.2.2 4) (Int32.toNatClampNeg x1))) else none) else (if x2 = 3 then (if inb x1 24 = true then some (((S5.2.2 5) (Int32.toNatClampNeg x1))) else none) else (if x2 = 4 then ((f_X5_firstYear N S5 S6 x1).bind (fun r66 => some (r66))) else ((f_X5_lastYear N S5 S6 x1).bind (fun r72 => some (r72))))))))
def f_X5_isOfKind_14 (N : Nat) (S5 : St) : Option (Int32) := some (1)
def f_X5_isOfKind (N : Nat) (S5 : St) (x1 : Int32) (x2 : Int32) : Option (Int32) := (if x2 = 0 then (f_X5_isOfKind_14 N S5  ) else (if inb x1 24 = true then (if x2 = ((S5.2.2 2) (Int32.toNatClampNeg x1)) then (f_X5_isOfKind_14 N S5  ) else some (0)) else none))
def f_X5_markAs (N : Nat) (S5 : St) (S6 : St) (x1 : Int32) (x2 : Int32) : Option (Int32) := (if x2 = 1 then (if inb x1 24 = true then some (((S5.2.2 6) (Int32.toNatClampNeg x1))) else none) else (if x2 = 2 then (if inb x1 24 = true then some (((S5.2.2 6) (Int32.toNatClampNeg x1))) else none) else (if x2 = 3 then (if inb x1 24 = true then (if inb x1 24 = true then ((f_X6_isSure N S6 ((S5.2.2 6) (Int32.toNatClampNeg x1)) ((S5.2.2 7) (Int32.toNatClampNeg x1))).bind (fun r51 => (if r51 = 0 then some (0) else some (1)))) else none) else none) else ((f_X5_lastYear N S5 S6 x1).bind (fun r65 => ((f_X5_firstYear N S5 S6 x1).bind (fun r70 => some (((r65 - r70) + 1)))))))))
def f_X5_isKnown_28 (N : Nat) (S5 : St) : Option (Int32) := some (1)
def f_X5_isKnown (N : Nat) (S5 : St) (x1 : Int32) (x2 : Int32) : Option (Int32) := (if inb x1 24 = true then (if x2 < ((S5.2.2 4) (Int32.toNatClampNeg x1)) then some (0) else ((f_X5_isStruck N S5 x1).bind (fun r12 => (if r12 = 0 then (f_X5_isKnown_28 N S5  ) else (if inb x1 24 = true then (if ((S5.2.2 5) (Int32.toNatClampNeg x1)) ≤ x2 then some (0) else (f_X5_isKnown_28 N S5  )) else none))))) else none)
def f_X5_gather_45 (N : Nat) (S5 : St) (S6 : St) (k7 : St → Int32 → Int32 → Option (St)) (S1 : St) (x1 : Int32) (x3 : Int32) : Option (St) := (k7 S1 x1 (x3 + 1))
def f_X5_gather_7_b (N : Nat) (S5 : St) (S6 : St) (k7 : St → Int32 → Int32 → Option (St)) (S1 : St) (x1 : Int32) (x3 : Int32) : Option (St) := (if (S5.1 13) ≤ x3 then some (S1) else ((f_X5_isKnown N S5 x3 x1).bind (fun r18 => (if r18 = 0 then (f_X5_gather_45 N S5 S6 k7 S1 x1 x3) else ((f_X5_firstYear N S5 S6 x3).bind (fun r28 => ((f_X5_lastYear N S5 S6 x3).bind (fun r33 => (if inb x3 24 = true then ((f_X1_add N S1 x3 r28 r33 ((S5.2.2 3) (Int32.toNatClampNeg x3))).bind (fun r42 => (f_X5_gather_45 N S5 S6 k7 r42 x1 x3))) else none)))))))))
def f_X5_gather_7 (N : Nat) (S5 : St) (S6 : St) : Nat → St → Int32 → Int32 → Option (St)
  | 0, _, _, _ => none
  | n + 1, y0, y1, y2 => f_X5_gather_7_b N S5 S6  (fun y0 y1 y2 => f_X5_gather_7 N S5 S6  n y0 y1 y2) y0 y1 y2
def f_X5_gather (N : Nat) (S5 : St) (S6 : St) (S1 : St) (x1 : Int32) : Option (St) := (f_X5_gather_7 N S5 S6  N (sI S1 4 0) x1 0)
def f_X5_mixPaintsInto_2_b (N : Nat) (S5 : St) (k2 : Int64 → Int32 → Option (Int64)) (x1 : Int64) (x3 : Int32) : Option (Int64) := (if 10 ≤ x3 then some (x1) else (if inb x3 10 = true then (k2 ((31 * x1) + (Int32.toInt64 ((S5.2.2 1) (Int32.toNatClampNeg x3)))) (x3 + 1)) else none))
def f_X5_mixPaintsInto_2 (N : Nat) (S5 : St) : Nat → Int64 → Int32 → Option (Int64)
  | 0, _, _ => none
  | n + 1, y0, y1 => f_X5_mixPaintsInto_2_b N S5  (fun y0 y1 => f_X5_mixPaintsInto_2 N S5  n y0 y1) y0 y1
def f_X5_mixPaintsInto (N : Nat) (S5 : St) (x1 : Int64) : Option (Int64) := (f_X5_mixPaintsInto_2 N S5  N x1 0)

def f_X2_swapWeight (N : Nat) (S2 : St) (x1 : Int32) (x2 : Int32) : Option (Int32 × St) := (if inb x1 4 = true then (if inb x1 4 = true then some (((S2.2.2 0) (Int32.toNatClampNeg x1)), (sA S2 0 (upd (S2.2.2 0) (Int32.toNatClampNeg x1) x2))) else none) else none)
def f_X2_isFull (N : Nat) (S2 : St) : Option (Int32) := (if (S2.1 8) < 10 then some (0) else some (1))
def f_X2_add_44_b (N : Nat) (k44 : St → Int32 → Option (Int32 × St)) (S2 : St) (x4 : Int32) : Option (Int32 × St) := (if 4 ≤ x4 then some ((((S2.1 8) + 1) - 1), (sI S2 8 ((S2.1 8) + 1))) else (if inb (((S2.1 8) * 4) + x4) 40 = true then (k44 (sA S2 4 (upd (S2.2.2 4) (Int32.toNatClampNeg (((S2.1 8) * 4) + x4)) 8)) (x4 + 1)) else none))
def f_X2_add_44 (N : Nat) : Nat → St → Int32 → Option (Int32 × St)
  | 0, _, _ => none
  | n + 1, y0, y1 => f_X2_add_44_b N   (fun y0 y1 => f_X2_add_44 N   n y0 y1) y0 y1
def f_X2_add (N : Nat) (S2 : St) (x1 : Int32) (x2 : Int32) (x3 : Int32) : Option (Int32 × St) := (if inb (S2.1 8) 10 = true then (if inb (S2.1 8) 10 = true then (if inb (S2.1 8) 10 = true then (if inb (S2.1 8) 10 = true then (f_X2_add_44 N   N (sA (sA (sA (sA S2 1 (upd (S2.2.2 1) (Int32.toNatClampNeg (S2.1 8)) x1)) 2 (upd (S2.2.2 2) (Int32.toNatClampNeg (S2.1 8)) x2)) 3 (upd (S2.2.2 3) (Int32.toNatClampNeg (S2.1 8)) x3)) 5 (upd (S2.2.2 5) (Int32.toNatClampNeg (S2.1 8)) (-9))) 0) else none) else none) else none) else none)
def f_X2_has (N : Nat) (S2 : St) (x1 : Int32) : Option (Int32) := (if x1 < 0 then some (0) else (if (S2.1 8) ≤ x1 then some (0) else some (1)))
def f_X2_isDone (N : Nat) (S2 : St) (x1 : Int32) : Option (Int32) := (if inb x1 10 = true then (if ((S2.2.2 5) (Int32.toNatClampNeg x1)) = (-9) then some (0) else some (1)) else none)
def f_X2_swapOften (N : Nat) (S2 : St) (x1 : Int32) (x2 : Int32) (x3 : Int32) : Option (Int32 × St) := (if inb ((x1 * 4) + x2) 40 = true then (if inb ((x1 * 4) + x2) 40 = true then some (((S2.2.2 4) (Int32.toNatClampNeg ((x1 * 4) + x2))), (sA S2 4 (upd (S2.2.2 4) (Int32.toNatClampNeg ((x1 * 4) + x2)) x3))) else none) else none)
def f_X2_isGroupDone (N : Nat) (S2 : St) (x1 : Int32) : Option (Int32) := (if inb x1 10 = true then (if ((S2.2.2 3) (Int32.toNatClampNeg x1)) = (-9) then some (0) else (if inb x1 10 = true then (if inb ((S2.2.2 3) (Int32.toNatClampNeg x1)) 4 = true then (if ((S2.2.2 7) (Int32.toNatClampNeg ((S2.2.2 3) (Int32.toNatClampNeg x1)))) = 0 then some (0) else some (1)) else none) else none)) else none)
def f_X2_finish_57 (N : Nat) (S2 : St) (x1 : Int32) : Option (Int32 × St) := (if inb x1 10 = true then (if z01 ((S2.2.2 6) (Int32.toNatClampNeg x1)) = true then some (((S2.2.2 6) (Int32.toNatClampNeg x1)), (sI S2 9 ((S2.1 9) + 1))) else none) else none)
def f_X2_finish_33 (N : Nat) (S2 : St) (x1 : Int32) (t0 : Int32) (t1 : Int32) : Option (Int32 × St) := (if inb t1 10 = true then (if inb x1 10 = true then (if ((S2.2.2 3) (Int32.toNatClampNeg x1)) = (-9) then (f_X2_finish_57 N   (sA S2 5 (upd (S2.2.2 5) (Int32.toNatClampNeg t1) t0)) x1) else (if inb x1 10 = true then (if inb ((S2.2.2 3) (Int32.toNatClampNeg x1)) 4 = true then (f_X2_finish_57 N   (sA (sA S2 5 (upd (S2.2.2 5) (Int32.toNatClampNeg t1) t0)) 7 (upd (S2.2.2 7) (Int32.toNatClampNeg ((S2.2.2 3) (Int32.toNatClampNeg x1))) (vp_nar .boolean 1))) x1) else none) else none)) else none) else none)
def f_X2_finish_18 (N : Nat) (S2 : St) (x1 : Int32) (x2 : Int32) (t0 : Int32) (t1 : Int32) : Option (Int32 × St) := (if inb t1 10 = true then (if x2 = 0 then (f_X2_finish_33 N   (sA S2 6 (upd (S2.2.2 6) (Int32.toNatClampNeg t1) (vp_nar .boolean t0))) x1 0 x1) else (f_X2_finish_33 N   (sA S2 6 (upd (S2.2.2 6) (Int32.toNatClampNeg t1) (vp_nar .boolean t0))) x1 1 x1)) else none)
def f_X2_finish (N : Nat) (S2 : St) (x1 : Int32) (x2 : Int32) : Option (Int32 × St) := ((f_X2_isGroupDone N S2 x1).bind (fun r7 => (if r7 = 0 then (f_X2_finish_18 N   S2 x1 x2 1 x1) else (f_X2_finish_18 N   S2 x1 x2 0 x1))))
def f_X2_score_69 (N : Nat) (S2 : St) (k11 : Int32 → Int64 → Int32 → Option (Int64)) (x1 : Int32) (x2 : Int64) (x4 : Int32) : Option (Int64) := (k11 x1 x2 (x4 + 1))
def f_X2_score_67 (N : Nat) (S2 : St) (k11 : Int32 → Int64 → Int32 → Option (Int64)) (x1 : Int32) (x4 : Int32) (t0 : Int64) (t1 : Int64) : Option (Int64) := (f_X2_score_69 N S2 k11 x1 (t1 * t0) x4)
def f_X2_score_11_b (N : Nat) (S2 : St) (k11 : Int32 → Int64 → Int32 → Option (Int64)) (x1 : Int32) (x2 : Int64) (x4 : Int32) : Option (Int64) := (if (S2.1 8) ≤ x4 then some (x2) else (if inb x4 10 = true then (if ((S2.2.2 6) (Int32.toNatClampNeg x4)) = 0 then (f_X2_score_69 N S2 k11 x1 x2 x4) else (if inb ((x4 * 4) + x1) 40 = true then (if inb x4 10 = true then (if ((S2.2.2 5) (Int32.toNatClampNeg x4)) = 1 then (f_X2_score_67 N S2 k11 x1 x4 (Int32.toInt64 ((S2.2.2 4) (Int32.toNatClampNeg ((x4 * 4) + x1)))) x2) else (f_X2_score_67 N S2 k11 x1 x4 (Int32.toInt64 (16 - ((S2.2.2 4) (Int32.toNatClampNeg ((x4 * 4) + x1))))) x2)) else none) else none)) else none))
def f_X2_score_11 (N : Nat) (S2 : St) : Nat → Int32 → Int64 → Int32 → Option (Int64)
  | 0, _, _, _ => none
  | n + 1, y0, y1, y2 => f_X2_score_11_b N S2  (fun y0 y1 y2 => f_X2_score_11 N S2  n y0 y1 y2) y0 y1 y2
def f_X2_score (N : Nat) (S2 : St) (x1 : Int32) : Option (Int64) := (if inb x1 4 = true then (f_X2_score_11 N S2  N x1 (Int32.toInt64 ((S2.2.2 0) (Int32.toNatClampNeg x1))) 0) else none)
def f_X2_scoreOfAll_4_b (N : Nat) (S2 : St) (k4 : Int64 → Int32 → Option (Int64)) (x1 : Int64) (x3 : Int32) : Option (Int64) := (if 4 ≤ x3 then some (x1) else ((f_X2_score N S2 x3).bind (fun r12 => (k4 (x1 + r12) (x3 + 1)))))
def f_X2_scoreOfAll_4 (N : Nat) (S2 : St) : Nat → Int64 → Int32 → Option (Int64)
  | 0, _, _ => none
  | n + 1, y0, y1 => f_X2_scoreOfAll_4_b N S2  (fun y0 y1 => f_X2_scoreOfAll_4 N S2  n y0 y1) y0 y1
def f_X2_scoreOfAll (N : Nat) (S2 : St) : Option (Int64) := (f_X2_scoreOfAll_4 N S2  N 0 0)
def f_X2_likeliest_25 (N : Nat) (S2 : St) (k4 : Int32 → Int32 → Option (Int32)) (x1 : Int32) (x2 : Int32) : Option (Int32) := (k4 x1 (x2 + 1))
def f_X2_likeliest_4_b (N : Nat) (S2 : St) (k4 : Int32 → Int32 → Option (Int32)) (x1 : Int32) (x2 : Int32) : Option (Int32) := (if 4 ≤ x2 then some (x1) else ((f_X2_score N S2 x2).bind (fun r11 => ((f_X2_score N S2 x1).bind (fun r16 => (if (lg_cmp r11 r16) ≤ 0 then (f_X2_likeliest_25 N S2 k4 x1 x2) else (f_X2_likeliest_25 N S2 k4 x2 x2)))))))
def f_X2_likeliest_4 (N : Nat) (S2 : St) : Nat → Int32 → Int32 → Option (Int32)
  | 0, _, _ => none
  | n + 1, y0, y1 => f_X2_likeliest_4_b N S2  (fun y0 y1 => f_X2_likeliest_4 N S2  n y0 y1) y0 y1
def f_X2_likeliest (N : Nat) (S2 : St) : Option (Int32) := (f_X2_likeliest_4 N S2  N 0 1)
def f_X2_isOpen (N : Nat) (S2 : St) (x1 : Int32) : Option (Int32) := ((f_X2_isDone N S2 x1).bind (fun r2 => (if r2 = 0 then ((f_X2_isGroupDone N S2 x1).bind (fun r10 => (if r10 = 0 then some (1) else some (0)))) else some (0))))
def f_X2_gainOf_11_b (N : Nat) (S2 : St) (k11 : Int32 → Int64 → Int64 → Int64 → Int32 → Option (Int64)) (x1 : Int32) (x2 : Int64) (x4 : Int64) (x6 : Int64) (x8 : Int32) : Option (Int64) := (if 4 ≤ x8 then some (((x2 + x4) - x6)) else ((f_X2_score N S2 x8).bind (fun r20 => (if inb ((x1 * 4) + x8) 40 = true then (k11 x1 (if (r20 * (Int32.toInt64 ((S2.2.2 4) (Int32.toNatClampNeg ((x1 * 4) + x8))))) < x2 then x2 else (r20 * (Int32.toInt64 ((S2.2.2 4) (Int32.toNatClampNeg ((x1 * 4) + x8)))))) (if (r20 * (Int32.toInt64 (16 - ((S2.2.2 4) (Int32.toNatClampNeg ((x1 * 4) + x8)))))) < x4 then x4 else (r20 * (Int32.toInt64 (16 - ((S2.2.2 4) (Int32.toNatClampNeg ((x1 * 4) + x8))))))) (if (r20 * 16) < x6 then x6 else (r20 * 16)) (x8 + 1)) else none))))
def f_X2_gainOf_11 (N : Nat) (S2 : St) : Nat → Int32 → Int64 → Int64 → Int64 → Int32 → Option (Int64)
  | 0, _, _, _, _, _ => none
  | n + 1, y0, y1, y2, y3, y4 => f_X2_gainOf_11_b N S2  (fun y0 y1 y2 y3 y4 => f_X2_gainOf_11 N S2  n y0 y1 y2 y3 y4) y0 y1 y2 y3 y4
def f_X2_gainOf (N : Nat) (S2 : St) (x1 : Int32) : Option (Int64) := (f_X2_gainOf_11 N S2  N x1 0 0 0 0)
def f_X2_best_102 (N : Nat) (S2 : St) (k9 : Int32 → Int32 → Int32 → Int64 → Int32 → Option (Int32)) (x1 : Int32) (x2 : Int32) (x3 : Int32) (x4 : Int64) (x6 : Int32) : Option (Int32) := (k9 x1 x2 x3 x4 (x6 + 1))
def f_X2_best_95 (N : Nat) (S2 : St) (k9 : Int32 → Int32 → Int32 → Int64 → Int32 → Option (Int32)) (x1 : Int32) (x2 : Int32) (x6 : Int32) (x7 : Int64) : Option (Int32) := (f_X2_best_102 N S2 k9 x1 x2 x6 x7 x6)
def f_X2_best_9_b (N : Nat) (S2 : St) (k9 : Int32 → Int32 → Int32 → Int64 → Int32 → Option (Int32)) (x1 : Int32) (x2 : Int32) (x3 : Int32) (x4 : Int64) (x6 : Int32) : Option (Int32) := (if (S2.1 8) ≤ x6 then some (x3) else ((f_X2_isOpen N S2 x6).bind (fun r21 => (if r21 = 0 then (f_X2_best_102 N S2 k9 x1 x2 x3 x4 x6) else (if inb x6 10 = true then (if x1 < ((S2.2.2 1) (Int32.toNatClampNeg x6)) then (f_X2_best_102 N S2 k9 x1 x2 x3 x4 x6) else (if inb x6 10 = true then (if x2 < ((S2.2.2 2) (Int32.toNatClampNeg x6)) then (f_X2_best_102 N S2 k9 x1 x2 x3 x4 x6) else ((f_X2_gainOf N S2 x6).bind (fun r52 => (if x3 = (-9) then (f_X2_best_95 N S2 k9 x1 x2 x6 r52) else (if 0 < (lg_cmp r52 x4) then (f_X2_best_95 N S2 k9 x1 x2 x6 r52) else (if (lg_cmp r52 x4) = 0 then (if inb x6 10 = true then (if inb x3 10 = true then (if ((S2.2.2 1) (Int32.toNatClampNeg x3)) ≤ ((S2.2.2 1) (Int32.toNatClampNeg x6)) then (f_X2_best_102 N S2 k9 x1 x2 x3 x4 x6) else (f_X2_best_95 N S2 k9 x1 x2 x6 r52)) else none) else none) else (f_X2_best_102 N S2 k9 x1 x2 x3 x4 x6))))))) else none)) else none)))))
def f_X2_best_9 (N : Nat) (S2 : St) : Nat → Int32 → Int32 → Int32 → Int64 → Int32 → Option (Int32)
  | 0, _, _, _, _, _ => none
  | n + 1, y0, y1, y2, y3, y4 => f_X2_best_9_b N S2  (fun y0 y1 y2 y3 y4 => f_X2_best_9 N S2  n y0 y1 y2 y3 y4) y0 y1 y2 y3 y4
def f_X2_best (N : Nat) (S2 : St) (x1 : Int32) (x2 : Int32) : Option (Int32) := (f_X2_best_9 N S2  N x1 x2 (-9) 0 0)
def f_X2_mixInto_82_b (N : Nat) (S2 : St) (k29 : Int64 → Int32 → Option (Int64)) (k82 : Int64 → Int32 → Int32 → Option (Int64)) (x1 : Int64) (x3 : Int32) (x4 : Int32) : Option (Int64) := (if 4 ≤ x4 then (if inb x3 10 = true then (k29 ((31 * x1) + (Int32.toInt64 ((S2.2.2 5) (Int32.toNatClampNeg x3)))) (x3 + 1)) else none) else (if inb ((x3 * 4) + x4) 40 = true then (k82 ((31 * x1) + (Int32.toInt64 ((S2.2.2 4) (Int32.toNatClampNeg ((x3 * 4) + x4))))) x3 (x4 + 1)) else none))
def f_X2_mixInto_82 (N : Nat) (S2 : St) (k29 : Int64 → Int32 → Option (Int64)) : Nat → Int64 → Int32 → Int32 → Option (Int64)
  | 0, _, _, _ => none
  | n + 1, y0, y1, y2 => f_X2_mixInto_82_b N S2 k29 (fun y0 y1 y2 => f_X2_mixInto_82 N S2 k29 n y0 y1 y2) y0 y1 y2
def f_X2_mixInto_29_b (N : Nat) (S2 : St) (k29 : Int64 → Int32 → Option (Int64)) (x1 : Int64) (x3 : Int32) : Option (Int64) := (if (S2.1 8) ≤ x3 then some (x1) else (if inb x3 10 = true then (if inb x3 10 = true then (if inb x3 10 = true then (f_X2_mixInto_82 N S2 k29 N ((31 * ((31 * ((31 * x1) + (Int32.toInt64 ((S2.2.2 1) (Int32.toNatClampNeg x3))))) + (Int32.toInt64 ((S2.2.2 2) (Int32.toNatClampNeg x3))))) + (Int32.toInt64 ((S2.2.2 3) (Int32.toNatClampNeg x3)))) x3 0) else none) else none) else none))
def f_X2_mixInto_29 (N : Nat) (S2 : St) : Nat → Int64 → Int32 → Option (Int64)
  | 0, _, _ => none
  | n + 1, y0, y1 => f_X2_mixInto_29_b N S2  (fun y0 y1 => f_X2_mixInto_29 N S2  n y0 y1) y0 y1
def f_X2_mixInto_2_b (N : Nat) (S2 : St) (k2 : Int64 → Int32 → Option (Int64)) (x1 : Int64) (x3 : Int32) : Option (Int64) := (if 4 ≤ x3 then (f_X2_mixInto_29 N S2  N x1 0) else (if inb x3 4 = true then (k2 ((31 * x1) + (Int32.toInt64 ((S2.2.2 0) (Int32.toNatClampNeg x3)))) (x3 + 1)) else none))
def f_X2_mixInto_2 (N : Nat) (S2 : St) : Nat → Int64 → Int32 → Option (Int64)
  | 0, _, _ => none
  | n + 1, y0, y1 => f_X2_mixInto_2_b N S2  (fun y0 y1 => f_X2_mixInto_2 N S2  n y0 y1) y0 y1
def f_X2_mixInto (N : Nat) (S2 : St) (x1 : Int64) : Option (Int64) := (f_X2_mixInto_2 N S2  N x1 0)

def f_X4_isFull (N : Nat) (S4 : St) : Option (Int32) := (if (S4.1 2) < 20 then some (0) else some (1))
def f_X4_add_55 (N : Nat) (S4 : St) (x1 : Int32) (x2 : Int32) (x3 : Int32) : Option (Int32 × St) := (if inb x3 20 = true then (if inb x3 20 = true then some (((S4.1 2) + 1), (sI (sA (sA S4 0 (upd (S4.2.2 0) (Int32.toNatClampNeg x3) x1)) 1 (upd (S4.2.2 1) (Int32.toNatClampNeg x3) x2)) 2 ((S4.1 2) + 1))) else none) else none)
def f_X4_add_5_b (N : Nat) (k5 : St → Int32 → Int32 → Int32 → Option (Int32 × St)) (S4 : St) (x1 : Int32) (x2 : Int32) (x3 : Int32) : Option (Int32 × St) := (if x3 ≤ 0 then (f_X4_add_55 N   S4 x1 x2 x3) else (if inb (x3 - 1) 20 = true then (if ((S4.2.2 0) (Int32.toNatClampNeg (x3 - 1))) ≤ x1 then (f_X4_add_55 N   S4 x1 x2 x3) else (if inb (x3 - 1) 20 = true then (if inb x3 20 = true then (if inb (x3 - 1) 20 = true then (if inb x3 20 = true then (k5 (sA (sA S4 0 (upd (S4.2.2 0) (Int32.toNatClampNeg x3) ((S4.2.2 0) (Int32.toNatClampNeg (x3 - 1))))) 1 (upd (S4.2.2 1) (Int32.toNatClampNeg x3) ((S4.2.2 1) (Int32.toNatClampNeg (x3 - 1))))) x1 x2 (x3 + (-1))) else none) else none) else none) else none)) else none))
def f_X4_add_5 (N : Nat) : Nat → St → Int32 → Int32 → Int32 → Option (Int32 × St)
  | 0, _, _, _, _ => none
  | n + 1, y0, y1, y2, y3 => f_X4_add_5_b N   (fun y0 y1 y2 y3 => f_X4_add_5 N   n y0 y1 y2 y3) y0 y1 y2 y3
def f_X4_add (N : Nat) (S4 : St) (x1 : Int32) (x2 : Int32) : Option (Int32 × St) := (f_X4_add_5 N   N S4 x1 x2 (S4.1 2))
def f_X4_addGap (N : Nat) (S4 : St) (x1 : Int32) : Option (St) := (if x1 ≤ 0 then some (S4) else some ((sI (sI S4 3 ((S4.1 3) + x1)) 4 (if (S4.1 4) < x1 then x1 else (S4.1 4)))))
def f_X4_findGaps_15_b (N : Nat) (k15 : St → Int32 → Int32 → Int32 → Option (St)) (S4 : St) (x2 : Int32) (x3 : Int32) (x4 : Int32) : Option (St) := (if (S4.1 2) ≤ x4 then ((f_X4_addGap N S4 ((x2 + 1) - x3)).bind (fun r69 => some (r69))) else (if inb x4 20 = true then ((f_X4_addGap N S4 ((if (x2 + 1) < ((S4.2.2 0) (Int32.toNatClampNeg x4)) then (x2 + 1) else ((S4.2.2 0) (Int32.toNatClampNeg x4))) - x3)).bind (fun r40 => (if inb x4 20 = true then (k15 r40 x2 (if x3 < (((r40.2.2 1) (Int32.toNatClampNeg x4)) + 1) then (((r40.2.2 1) (Int32.toNatClampNeg x4)) + 1) else x3) (x4 + 1)) else none))) else none))
def f_X4_findGaps_15 (N : Nat) : Nat → St → Int32 → Int32 → Int32 → Option (St)
  | 0, _, _, _, _ => none
  | n + 1, y0, y1, y2, y3 => f_X4_findGaps_15_b N   (fun y0 y1 y2 y3 => f_X4_findGaps_15 N   n y0 y1 y2 y3) y0 y1 y2 y3
def f_X4_findGaps (N : Nat) (S4 : St) (x1 : Int32) (x2 : Int32) : Option (St) := (f_X4_findGaps_15 N   N (sI (sI S4 3 0) 4 0) x2 x1 0)

def f_X3_isFull (N : Nat) (S3 : St) : Option (Int32) := (if (S3.1 4) < 30 then some (0) else some (1))
def f_X3_add (N : Nat) (S3 : St) (x1 : Int32) (x2 : Int32) (x3 : Int32) (x4 : Int32) : Option (Int32 × St) := (if inb (S3.1 4) 30 = true then (if inb (S3.1 4) 30 = true then (if inb (S3.1 4) 30 = true then (if inb (S3.1 4) 30 = true then some (((S3.1 4) + 1), (sI (sA (sA (sA (sA S3 0 (upd (S3.2.2 0) (Int32.toNatClampNeg (S3.1 4)) x1)) 1 (upd (S3.2.2 1) (Int32.toNatClampNeg (S3.1 4)) x2)) 2 (upd (S3.2.2 2) (Int32.toNatClampNeg (S3.1 4)) x3)) 3 (upd (S3.2.2 3) (Int32.toNatClampNeg (S3.1 4)) (vp_nar .boolean x4))) 4 ((S3.1 4) + 1))) else none) else none) else none) else none)
def f_X3_howMany_39 (N : Nat) (S3 : St) (k5 : Int32 → Int32 → Int32 → Int32 → Option (Int32)) (x1 : Int32) (x2 : Int32) (x3 : Int32) (x4 : Int32) : Option (Int32) := (k5 x1 x2 x3 (x4 + 1))
def f_X3_howMany_5_b (N : Nat) (S3 : St) (k5 : Int32 → Int32 → Int32 → Int32 → Option (Int32)) (x1 : Int32) (x2 : Int32) (x3 : Int32) (x4 : Int32) : Option (Int32) := (if (S3.1 4) ≤ x4 then some (x3) else (if inb x4 30 = true then (if ((S3.2.2 1) (Int32.toNatClampNeg x4)) = x1 then (if inb x4 30 = true then (if ((S3.2.2 3) (Int32.toNatClampNeg x4)) = x2 then (f_X3_howMany_39 N S3 k5 x1 x2 (x3 + 1) x4) else (f_X3_howMany_39 N S3 k5 x1 x2 x3 x4)) else none) else (f_X3_howMany_39 N S3 k5 x1 x2 x3 x4)) else none))
def f_X3_howMany_5 (N : Nat) (S3 : St) : Nat → Int32 → Int32 → Int32 → Int32 → Option (Int32)
  | 0, _, _, _, _ => none
  | n + 1, y0, y1, y2, y3 => f_X3_howMany_5_b N S3  (fun y0 y1 y2 y3 => f_X3_howMany_5 N S3  n y0 y1 y2 y3) y0 y1 y2 y3
def f_X3_howMany (N : Nat) (S3 : St) (x1 : Int32) (x2 : Int32) : Option (Int32) := (f_X3_howMany_5 N S3  N x1 x2 0 0)
def f_X3_sumOf_46 (N : Nat) (S3 : St) (k5 : Int32 → Int32 → Int32 → Int32 → Option (Int32)) (x1 : Int32) (x2 : Int32) (x3 : Int32) (x4 : Int32) : Option (Int32) := (k5 x1 x2 x3 (x4 + 1))
def f_X3_sumOf_5_b (N : Nat) (S3 : St) (k5 : Int32 → Int32 → Int32 → Int32 → Option (Int32)) (x1 : Int32) (x2 : Int32) (x3 : Int32) (x4 : Int32) : Option (Int32) := (if (S3.1 4) ≤ x4 then some (x3) else (if inb x4 30 = true then (if ((S3.2.2 1) (Int32.toNatClampNeg x4)) = x1 then (if inb x4 30 = true then (if ((S3.2.2 3) (Int32.toNatClampNeg x4)) = x2 then (if inb x4 30 = true then (f_X3_sumOf_46 N S3 k5 x1 x2 (x3 + ((S3.2.2 2) (Int32.toNatClampNeg x4))) x4) else none) else (f_X3_sumOf_46 N S3 k5 x1 x2 x3 x4)) else none) else (f_X3_sumOf_46 N S3 k5 x1 x2 x3 x4)) else none))
def f_X3_sumOf_5 (N : Nat) (S3 : St) : Nat → Int32 → Int32 → Int32 → Int32 → Option (Int32)
  | 0, _, _, _, _ => none
  | n + 1, y0, y1, y2, y3 => f_X3_sumOf_5_b N S3  (fun y0 y1 y2 y3 => f_X3_sumOf_5 N S3  n y0 y1 y2 y3) y0 y1 y2 y3
def f_X3_sumOf (N : Nat) (S3 : St) (x1 : Int32) (x2 : Int32) : Option (Int32) := (f_X3_sumOf_5 N S3  N x1 x2 0 0)
def f_X3_areComparable (N : Nat) (S3 : St) (x1 : Int32) (x2 : Int32) : Option (Int32) := (if inb x1 30 = true then (if ((S3.2.2 3) (Int32.toNatClampNeg x1)) = 0 then (if inb x2 30 = true then (if ((S3.2.2 3) (Int32.toNatClampNeg x2)) = 0 then (if inb x1 30 = true then (if inb x2 30 = true then (if ((S3.2.2 0) (Int32.toNatClampNeg x1)) = ((S3.2.2 0) (Int32.toNatClampNeg x2)) then (if inb x1 30 = true then (if inb x2 30 = true then (if ((S3.2.2 1) (Int32.toNatClampNeg x1)) = ((S3.2.2 1) (Int32.toNatClampNeg x2)) then some (1) else some (0)) else none) else none) else some (0)) else none) else none) else some (0)) else none) else some (0)) else none)
def f_X3_weighPair_24 (N : Nat) (S3 : St) (x1 : Int32) (x2 : Int32) : Option (St) := some ((sI (sI S3 5 x2) 6 x1))
def f_X3_weighPair (N : Nat) (S3 : St) (x1 : Int32) (x2 : Int32) : Option (St) := (if (S3.1 5) < x2 then (f_X3_weighPair_24 N   S3 x1 x2) else (if x2 = (S3.1 5) then (if (S3.1 6) ≤ x1 then some (S3) else (f_X3_weighPair_24 N   S3 x1 x2)) else some (S3)))
def f_X3_findSpread_69 (N : Nat) (k14 : St → Int32 → Option (St)) (k26 : St → Int32 → Int32 → Option (St)) (S3 : St) (x1 : Int32) (x2 : Int32) : Option (St) := (k26 S3 x1 (x2 + 1))
def f_X3_findSpread_26_b (N : Nat) (k14 : St → Int32 → Option (St)) (k26 : St → Int32 → Int32 → Option (St)) (S3 : St) (x1 : Int32) (x2 : Int32) : Option (St) := (if (S3.1 4) ≤ x2 then (k14 S3 (x1 + 1)) else ((f_X3_areComparable N S3 x1 x2).bind (fun r37 => (if r37 = 0 then (f_X3_findSpread_69 N  k14 k26 S3 x1 x2) else (if inb x1 30 = true then (if inb x1 30 = true then (if inb x2 30 = true then ((f_X3_weighPair N S3 ((S3.2.2 0) (Int32.toNatClampNeg x1)) (if 0 ≤ (((S3.2.2 2) (Int32.toNatClampNeg x1)) - ((S3.2.2 2) (Int32.toNatClampNeg x2))) then (((S3.2.2 2) (Int32.toNatClampNeg x1)) - ((S3.2.2 2) (Int32.toNatClampNeg x2))) else 0 - (((S3.2.2 2) (Int32.toNatClampNeg x1)) - ((S3.2.2 2) (Int32.toNatClampNeg x2))))).bind (fun r66 => (f_X3_findSpread_69 N  k14 k26 r66 x1 x2))) else none) else none) else none)))))
def f_X3_findSpread_26 (N : Nat) (k14 : St → Int32 → Option (St)) : Nat → St → Int32 → Int32 → Option (St)
  | 0, _, _, _ => none
  | n + 1, y0, y1, y2 => f_X3_findSpread_26_b N  k14 (fun y0 y1 y2 => f_X3_findSpread_26 N  k14 n y0 y1 y2) y0 y1 y2
def f_X3_findSpread_14_b (N : Nat) (k14 : St → Int32 → Option (St)) (S3 : St) (x1 : Int32) : Option (St) := (if (S3.1 4) ≤ x1 then some (S3) else (f_X3_findSpread_26 N  k14 N S3 x1 (x1 + 1)))
def f_X3_findSpread_14 (N : Nat) : Nat → St → Int32 → Option (St)
  | 0, _, _ => none
  | n + 1, y0, y1 => f_X3_findSpread_14_b N   (fun y0 y1 => f_X3_findSpread_14 N   n y0 y1) y0 y1
def f_X3_findSpread (N : Nat) (S3 : St) : Option (St) := (f_X3_findSpread_14 N   N (sI (sI S3 5 (-9)) 6 (-9)) 0)

def f_X0_sell (N : Nat) (S0 : St) (x1 : Int32) (x2 : Int32) (x3 : Int32) : Option (St) := some ((sI (sI (sI S0 4 x1) 5 x2) 6 x3))
def f_X0_isFull (N : Nat) (S0 : St) : Option (Int32) := (if (S0.1 7) < 8 then some (0) else some (1))
def f_X0_addLaw (N : Nat) (S0 : St) (x1 : Int32) (x2 : Int32) (x3 : Int32) (x4 : Int32) : Option (Int32 × St) := (if inb (S0.1 7) 8 = true then (if inb (S0.1 7) 8 = true then (if inb (S0.1 7) 8 = true then (if inb (S0.1 7) 8 = true then some ((((S0.1 7) + 1) - 1), (sI (sA (sA (sA (sA S0 0 (upd (S0.2.2 0) (Int32.toNatClampNeg (S0.1 7)) x1)) 1 (upd (S0.2.2 1) (Int32.toNatClampNeg (S0.1 7)) x2)) 2 (upd (S0.2.2 2) (Int32.toNatClampNeg (S0.1 7)) x3)) 3 (upd (S0.2.2 3) (Int32.toNatClampNeg (S0.1 7)) x4)) 7 ((S0.1 7) + 1))) else none) else none) else none) else none)
def f_X0_lawInForce_59 (N : Nat) (S0 : St) (k5 : Int32 → Int32 → Option (Int32)) (x1 : Int32) (x2 : Int32) : Option (Int32) := (k5 x1 (x2 + 1))
def f_X0_lawInForce_39 (N : Nat) (S0 : St) (k5 : Int32 → Int32 → Option (Int32)) (x1 : Int32) (x2 : Int32) (t0 : Int32) : Option (Int32) := (if inb x2 8 = true then (if (S0.1 4) < ((S0.2.2 0) (Int32.toNatClampNeg x2)) then (f_X0_lawInForce_59 N S0 k5 x1 x2) else (if t0 = 0 then (f_X0_lawInForce_59 N S0 k5 x1 x2) else (f_X0_lawInForce_59 N S0 k5 x2 x2))) else none)
def f_X0_lawInForce_34 (N : Nat) (S0 : St) (k5 : Int32 → Int32 → Option (Int32)) (x1 : Int32) (x2 : Int32) : Option (Int32) := (f_X0_lawInForce_39 N S0 k5 x1 x2 1)
def f_X0_lawInForce_5_b (N : Nat) (S0 : St) (k5 : Int32 → Int32 → Option (Int32)) (x1 : Int32) (x2 : Int32) : Option (Int32) := (if (S0.1 7) ≤ x2 then some (x1) else (if x1 = (-9) then (f_X0_lawInForce_34 N S0 k5 x1 x2) else (if inb x2 8 = true then (if inb x1 8 = true then (if ((S0.2.2 0) (Int32.toNatClampNeg x2)) < ((S0.2.2 0) (Int32.toNatClampNeg x1)) then (f_X0_lawInForce_39 N S0 k5 x1 x2 0) else (f_X0_lawInForce_34 N S0 k5 x1 x2)) else none) else none)))
def f_X0_lawInForce_5 (N : Nat) (S0 : St) : Nat → Int32 → Int32 → Option (Int32)
  | 0, _, _ => none
  | n + 1, y0, y1 => f_X0_lawInForce_5_b N S0  (fun y0 y1 => f_X0_lawInForce_5 N S0  n y0 y1) y0 y1
def f_X0_lawInForce (N : Nat) (S0 : St) : Option (Int32) := (f_X0_lawInForce_5 N S0  N (-9) 0)
def f_X0_isTooLate (N : Nat) (S0 : St) (x1 : Int32) (x2 : Int32) : Option (Int32) := (if inb x1 8 = true then (if (x2 - (S0.1 4)) ≤ ((S0.2.2 1) (Int32.toNatClampNeg x1)) then some (0) else some (1)) else none)
def f_X0_isBelow (N : Nat) (S0 : St) (x1 : Int32) (x2 : Int64) (x4 : Int64) : Option (Int32) := (if inb x1 8 = true then (if 0 ≤ (lg_cmp (100 * x2) ((Int32.toInt64 ((S0.2.2 2) (Int32.toNatClampNeg x1))) * x4)) then some (0) else some (1)) else none)
def f_X0_paidBack (N : Nat) (S0 : St) (x1 : Int32) (x2 : Int32) : Option (Int32) := (if inb x1 8 = true then (if 36500 = 0 then none else some ((Int64.toInt32 ((Int32.toInt64 (S0.1 5)) + ((((Int32.toInt64 (S0.1 5)) * (Int32.toInt64 ((S0.2.2 3) (Int32.toNatClampNeg x1)))) * (Int32.toInt64 (x2 - (S0.1 4)))) / 36500))))) else none)

def f_X7_isWithin (N : Nat) (x0 : Int32) (x1 : Int32) (x2 : Int32) : Option (Int32) := (if x0 < x1 then some (0) else (if x2 < x0 then some (0) else some (1)))
def f_X7_later (N : Nat) (S7 : St) (x1 : Int32) : Option (Int32 × St) := ((f_X7_isWithin N x1 0 (30000 - (S7.1 8))).bind (fun r10 => (if r10 = 0 then some ((-1), S7) else some (((S7.1 8) + x1), (sI S7 8 ((S7.1 8) + x1))))))
def f_X7_isRow (N : Nat) (x0 : Int32) : Option (Int32) := ((f_X7_isWithin N x0 0 5).bind (fun r3 => (if z01 r3 = true then some (r3) else none)))
def f_X7_refuse (N : Nat) (S7 : St) (x1 : Int32) : Option (Int32 × St) := (if inb x1 6 = true then (if inb x1 6 = true then some ((-3), (sA (sI S7 9 x1) 7 (upd (S7.2.2 7) (Int32.toNatClampNeg x1) (((S7.2.2 7) (Int32.toNatClampNeg x1)) + 1)))) else none) else none)
def f_X7_row (N : Nat) (S7 : St) (S6 : St) (x1 : Int32) (x2 : Int32) : Option (Int32 × St × St) := ((f_X7_isRow N x1).bind (fun r1 => (if r1 = 0 then some ((-1), S7, S6) else (if x2 ≤ 40 then (if 0 ≤ x2 then ((f_X6_make N S6 x1 x2).bind (fun r31 => some (x2, S7, r31))) else ((f_X7_refuse N S7 5).bind (fun r21 => some ((r21.1), (r21.2), S6)))) else some ((-1), S7, S6)))))
def f_X7_lay (N : Nat) (S7 : St) (S6 : St) (x1 : Int32) (x2 : Int32) (x3 : Int32) : Option (Int32 × St × St) := ((f_X7_isRow N x1).bind (fun r1 => (if r1 = 0 then some ((-1), S7, S6) else ((f_X6_isMissing N S6 x1).bind (fun r14 => (if r14 = 0 then ((f_X6_hasRun N S6 x1 x2 1).bind (fun r33 => (if r33 = 0 then ((f_X7_refuse N S7 2).bind (fun r41 => some ((r41.1), (r41.2), S6))) else ((f_X6_swap N S6 x1 x2 (Int8.toInt32 (Int32.toInt8 x3))).bind (fun r53 => some (((r53.1) + 1000), S7, (r53.2))))))) else ((f_X7_refuse N S7 1).bind (fun r22 => some ((r22.1), (r22.2), S6)))))))))
def f_X7_tear (N : Nat) (S7 : St) (S6 : St) (x1 : Int32) : Option (Int32 × St × St) := ((f_X7_isRow N x1).bind (fun r1 => (if r1 = 0 then some ((-1), S7, S6) else ((f_X6_isMissing N S6 x1).bind (fun r14 => (if r14 = 0 then ((f_X6_drop N S6 x1).bind (fun r31 => some (1, S7, r31))) else ((f_X7_refuse N S7 1).bind (fun r22 => some ((r22.1), (r22.2), S6)))))))))
def f_X7_copy_38 (N : Nat) (S7 : St) (S6 : St) : Option (Int32 × St × St) := ((f_X7_refuse N S7 1).bind (fun r40 => some ((r40.1), (r40.2), S6)))
def f_X7_copy_73 (N : Nat) (S7 : St) (S6 : St) : Option (Int32 × St × St) := ((f_X7_refuse N S7 2).bind (fun r75 => some ((r75.1), (r75.2), S6)))
def f_X7_copy (N : Nat) (S7 : St) (S6 : St) (x1 : Int32) (x2 : Int32) (x3 : Int32) (x4 : Int32) (x5 : Int32) : Option (Int32 × St × St) := ((f_X7_isRow N x1).bind (fun r1 => (if r1 = 0 then some ((-1), S7, S6) else ((f_X7_isRow N x3).bind (fun r8 => (if r8 = 0 then some ((-1), S7, S6) else ((f_X6_isMissing N S6 x1).bind (fun r21 => (if r21 = 0 then ((f_X6_isMissing N S6 x3).bind (fun r32 => (if r32 = 0 then ((f_X6_hasRun N S6 x1 x2 x5).bind (fun r52 => (if r52 = 0 then (f_X7_copy_73 N   S7 S6) else ((f_X6_hasRun N S6 x3 x4 x5).bind (fun r67 => (if r67 = 0 then (f_X7_copy_73 N   S7 S6) else ((f_X6_move N S6 x1 x2 x3 x4 x5).bind (fun r90 => some (1, S7, r90))))))))) else (f_X7_copy_38 N   S7 S6)))) else (f_X7_copy_38 N   S7 S6))))))))))
def f_X7_areTwoRows (N : Nat) (x0 : Int32) (x1 : Int32) : Option (Int32) := ((f_X7_isRow N x0).bind (fun r1 => (if r1 = 0 then some (0) else ((f_X7_isRow N x1).bind (fun r8 => (if r8 = 0 then some (0) else (if x0 = x1 then some (0) else some (1))))))))
def f_X7_match_32 (N : Nat) (S6 : St) (S7 : St) : Option (Int32 × St) := ((f_X7_refuse N S7 1).bind (fun r34 => some ((r34.1), (r34.2))))
def f_X7_match (N : Nat) (S7 : St) (S6 : St) (x1 : Int32) (x2 : Int32) : Option (Int32 × St) := ((f_X7_areTwoRows N x1 x2).bind (fun r2 => (if r2 = 0 then some ((-1), S7) else ((f_X6_isMissing N S6 x1).bind (fun r15 => (if r15 = 0 then ((f_X6_isMissing N S6 x2).bind (fun r26 => (if r26 = 0 then ((f_X6_canMatch N S6 x1 x2).bind (fun r44 => (if r44 = 0 then ((f_X7_refuse N S7 5).bind (fun r52 => some ((r52.1), (r52.2)))) else ((f_X6_bestPlace N S6 x1 x2).bind (fun r62 => ((f_X6_offAt N S6 x1 x2 r62).bind (fun r74 => some (r62, (sI S7 10 r74))))))))) else (f_X7_match_32 N S6  S7)))) else (f_X7_match_32 N S6  S7)))))))
def f_X7_sure (N : Nat) (S7 : St) (S6 : St) (x1 : Int32) (x2 : Int32) : Option (Int32) := ((f_X7_areTwoRows N x1 x2).bind (fun r2 => (if r2 = 0 then some ((-1)) else ((f_X6_isSure N S6 x1 x2).bind (fun r16 => (if r16 = 0 then some (0) else some (1)))))))
def f_X7_isYear (N : Nat) (x0 : Int32) : Option (Int32) := ((f_X7_isWithin N x0 1000 2100).bind (fun r7 => (if z01 r7 = true then some (r7) else none)))
def f_X7_paint (N : Nat) (S7 : St) (S5 : St) (x1 : Int32) (x2 : Int32) : Option (Int32 × St) := ((f_X7_isWithin N x1 0 9).bind (fun r4 => (if r4 = 0 then some ((-1), S5) else ((f_X7_isYear N x2).bind (fun r11 => (if r11 = 0 then some ((-1), S5) else ((f_X5_swapPaintYear N S5 x1 x2).bind (fun r25 => some ((r25.1), (r25.2))))))))))
def f_X7_sap_25 (N : Nat) (S7 : St) (S5 : St) (x1 : Int32) (x2 : Int32) (x3 : Int32) (t0 : Int32) : Option (Int32 × St) := (if t0 = 0 then some ((-1), S5) else ((f_X7_isWithin N x3 0 60).bind (fun r36 => (if r36 = 0 then some ((-1), S5) else ((f_X5_setSap N S5 x1 x2 x3).bind (fun r51 => some (1, r51)))))))
def f_X7_sap_24 (N : Nat) (S7 : St) (S5 : St) (x1 : Int32) (x2 : Int32) (x3 : Int32) : Option (Int32 × St) := (f_X7_sap_25 N S7  S5 x1 x2 x3 0)
def f_X7_sap (N : Nat) (S7 : St) (S5 : St) (x1 : Int32) (x2 : Int32) (x3 : Int32) : Option (Int32 × St) := ((f_X7_isWithin N x1 0 60).bind (fun r4 => (if r4 = 0 then (f_X7_sap_24 N S7  S5 x1 x2 x3) else ((f_X7_isWithin N x2 x1 60).bind (fun r14 => (if r14 = 0 then (f_X7_sap_24 N S7  S5 x1 x2 x3) else (f_X7_sap_25 N S7  S5 x1 x2 x3 1)))))))
def f_X7_areYears (N : Nat) (x0 : Int32) (x1 : Int32) : Option (Int32) := ((f_X7_isYear N x0).bind (fun r1 => (if r1 = 0 then some (0) else ((f_X7_isYear N x1).bind (fun r8 => (if r8 = 0 then some (0) else (if x1 < x0 then some (0) else some (1))))))))
def f_X7_isProofWeight (N : Nat) (x0 : Int32) : Option (Int32) := ((f_X7_isWithin N x0 1 9).bind (fun r4 => (if z01 r4 = true then some (r4) else none)))
def f_X7_proof (N : Nat) (S7 : St) (S5 : St) (x1 : Int32) (x2 : Int32) (x3 : Int32) : Option (Int32 × St) := ((f_X7_areYears N x1 x2).bind (fun r2 => (if r2 = 0 then some ((-1), S5) else ((f_X7_isProofWeight N x3).bind (fun r9 => (if r9 = 0 then some ((-1), S5) else ((f_X5_isFull N S5).bind (fun r21 => (if r21 = 0 then ((f_X5_addYears N S5 x1 x2 x3 (S7.1 8)).bind (fun r41 => some ((r41.1), (r41.2)))) else some ((-2), S5))))))))))
def f_X7_found (N : Nat) (S7 : St) (S5 : St) (x1 : Int32) (x2 : Int32) : Option (Int32 × St) := ((f_X7_isWithin N x1 0 9).bind (fun r4 => (if r4 = 0 then some ((-1), S5) else ((f_X7_isProofWeight N x2).bind (fun r11 => (if r11 = 0 then some ((-1), S5) else ((f_X5_isFull N S5).bind (fun r23 => (if r23 = 0 then ((f_X5_addPaint N S5 x1 x2 (S7.1 8)).bind (fun r42 => some ((r42.1), (r42.2)))) else some ((-2), S5))))))))))
def f_X7_rings_28 (N : Nat) (S7 : St) (S5 : St) (x1 : Int32) (x2 : Int32) (x3 : Int32) (t0 : Int32) : Option (Int32 × St) := (if t0 = 0 then some ((-1), S5) else ((f_X7_isProofWeight N x3).bind (fun r36 => (if r36 = 0 then some ((-1), S5) else ((f_X5_isFull N S5).bind (fun r48 => (if r48 = 0 then ((f_X5_addRings N S5 x1 x2 x3 (S7.1 8)).bind (fun r68 => some ((r68.1), (r68.2)))) else some ((-2), S5))))))))
def f_X7_rings_27 (N : Nat) (S7 : St) (S5 : St) (x1 : Int32) (x2 : Int32) (x3 : Int32) : Option (Int32 × St) := (f_X7_rings_28 N S7  S5 x1 x2 x3 0)
def f_X7_rings (N : Nat) (S7 : St) (S5 : St) (x1 : Int32) (x2 : Int32) (x3 : Int32) : Option (Int32 × St) := ((f_X7_isWithin N x1 1000 2000).bind (fun r7 => (if r7 = 0 then (f_X7_rings_27 N S7  S5 x1 x2 x3) else ((f_X7_isWithin N x2 0 30).bind (fun r17 => (if r17 = 0 then (f_X7_rings_27 N S7  S5 x1 x2 x3) else (f_X7_rings_28 N S7  S5 x1 x2 x3 1)))))))
def f_X7_threads (N : Nat) (S7 : St) (S5 : St) (x1 : Int32) (x2 : Int32) (x3 : Int32) (x4 : Int32) (x5 : Int32) : Option (Int32 × St) := ((f_X7_areTwoRows N x1 x2).bind (fun r2 => (if r2 = 0 then some ((-1), S5) else ((f_X7_areYears N x3 x4).bind (fun r11 => (if r11 = 0 then some ((-1), S5) else ((f_X7_isProofWeight N x5).bind (fun r19 => (if r19 = 0 then some ((-1), S5) else ((f_X5_isFull N S5).bind (fun r31 => (if r31 = 0 then ((f_X5_addThreads N S5 x1 x2 x3 x4 x5 (S7.1 8)).bind (fun r55 => some ((r55.1), (r55.2)))) else some ((-2), S5)))))))))))))
def f_X7_strike (N : Nat) (S7 : St) (S5 : St) (x1 : Int32) : Option (Int32 × St) := ((f_X5_has N S5 x1).bind (fun r5 => (if r5 = 0 then some ((-1), S5) else ((f_X5_isStruck N S5 x1).bind (fun r18 => (if r18 = 0 then ((f_X5_strikeOn N S5 x1 (S7.1 8)).bind (fun r36 => some (1, r36))) else some ((-4), S5)))))))
def f_X7_told (N : Nat) (S7 : St) (S5 : St) (S6 : St) (x1 : Int32) (x2 : Int32) : Option (Int32) := ((f_X5_has N S5 x1).bind (fun r5 => (if r5 = 0 then some ((-1)) else ((f_X7_isWithin N x2 0 5).bind (fun r14 => (if r14 = 0 then some ((-1)) else ((f_X5_detail N S5 S6 x1 x2).bind (fun r28 => some (r28)))))))))
def f_X7_mark (N : Nat) (S7 : St) (S5 : St) (S6 : St) (x1 : Int32) (x2 : Int32) : Option (Int32 × St) := ((f_X5_has N S5 x1).bind (fun r5 => (if r5 = 0 then some ((-1), S7) else ((f_X7_isWithin N x2 0 3).bind (fun r14 => (if r14 = 0 then some ((-1), S7) else ((f_X5_isOfKind N S5 x1 x2).bind (fun r28 => (if r28 = 0 then ((f_X7_refuse N S7 3).bind (fun r36 => some ((r36.1), (r36.2)))) else ((f_X5_markAs N S5 S6 x1 x2).bind (fun r46 => some (r46, S7))))))))))))
def f_X7_isDay (N : Nat) (x0 : Int32) : Option (Int32) := ((f_X7_isWithin N x0 0 30000).bind (fun r5 => (if z01 r5 = true then some (r5) else none)))
def f_X7_span (N : Nat) (S7 : St) (S5 : St) (S6 : St) (S1 : St) (x1 : Int32) (x2 : Int32) : Option (Int32 × St) := ((f_X7_isDay N x1).bind (fun r1 => (if r1 = 0 then some ((-1), S1) else ((f_X5_gather N S5 S6 S1 x1).bind (fun r18 => ((f_X1_firstCommonYear N r18).bind (fun r25 => ((f_X1_lastCommonYear N r18).bind (fun r33 => (if r25 ≤ r33 then (if x2 = 0 then some (r25, r18) else some (r33, r18)) else some ((-9), r18)))))))))))
def f_X7_quarrel_23_b (N : Nat) (S5 : St) (S6 : St) (k23 : St → St → Int32 → Option (Int32 × St × St)) (S7 : St) (S1 : St) (x2 : Int32) : Option (Int32 × St × St) := (if (S1.1 4) ≤ x2 then some ((-9), S7, S1) else ((f_X1_opponentAfter N S1 x2).bind (fun r39 => (if r39 = (-9) then (k23 S7 S1 (x2 + 1)) else (if inb r39 24 = true then (if inb x2 24 = true then some (((S1.2.2 0) (Int32.toNatClampNeg x2)), (sI S7 10 ((S1.2.2 0) (Int32.toNatClampNeg r39))), S1) else none) else none)))))
def f_X7_quarrel_23 (N : Nat) (S5 : St) (S6 : St) : Nat → St → St → Int32 → Option (Int32 × St × St)
  | 0, _, _, _ => none
  | n + 1, y0, y1, y2 => f_X7_quarrel_23_b N S5 S6  (fun y0 y1 y2 => f_X7_quarrel_23 N S5 S6  n y0 y1 y2) y0 y1 y2
def f_X7_quarrel (N : Nat) (S7 : St) (S5 : St) (S6 : St) (S1 : St) (x1 : Int32) : Option (Int32 × St × St) := ((f_X7_isDay N x1).bind (fun r1 => (if r1 = 0 then some ((-1), S7, S1) else ((f_X5_gather N S5 S6 S1 x1).bind (fun r18 => (f_X7_quarrel_23 N S5 S6  N S7 r18 0))))))
def f_X7_leftOut (N : Nat) (S7 : St) (S5 : St) (S6 : St) (S1 : St) (x1 : Int32) : Option (Int32 × St × St) := ((f_X7_isDay N x1).bind (fun r1 => (if r1 = 0 then some ((-1), S7, S1) else ((f_X5_gather N S5 S6 S1 x1).bind (fun r18 => ((f_X1_heaviestYear N r18).bind (fun r25 => ((f_X1_setWithout N r18 r25).bind (fun r35 => ((f_X1_weightOfAll N r18).bind (fun r45 => ((f_X1_weightOn N r18 r25).bind (fun r53 => some ((r45 - r53), (sI S7 10 r35), r18))))))))))))))
def f_X7_heldYear (N : Nat) (S7 : St) (S5 : St) (S6 : St) (S1 : St) (x1 : Int32) : Option (Int32 × St) := ((f_X7_isDay N x1).bind (fun r1 => (if r1 = 0 then some ((-1), S1) else ((f_X5_gather N S5 S6 S1 x1).bind (fun r18 => ((f_X1_heaviestYear N r18).bind (fun r25 => some (r25, r18))))))))
def f_X7_isHand (N : Nat) (x0 : Int32) : Option (Int32) := ((f_X7_isWithin N x0 0 3).bind (fun r3 => (if z01 r3 = true then some (r3) else none)))
def f_X7_hand (N : Nat) (S7 : St) (S2 : St) (x1 : Int32) (x2 : Int32) : Option (Int32 × St) := ((f_X7_isHand N x1).bind (fun r1 => (if r1 = 0 then some ((-1), S2) else ((f_X7_isWithin N x2 0 99).bind (fun r11 => (if r11 = 0 then some ((-1), S2) else ((f_X2_swapWeight N S2 x1 x2).bind (fun r25 => some ((r25.1), (r25.2))))))))))
def f_X7_test_20 (N : Nat) (S7 : St) (S2 : St) (x1 : Int32) (x2 : Int32) (x3 : Int32) (t0 : Int32) : Option (Int32 × St) := ((f_X7_isWithin N x1 1 1000).bind (fun r27 => (if r27 = 0 then some ((-1), S2) else ((f_X7_isWithin N x2 0 9).bind (fun r37 => (if r37 = 0 then some ((-1), S2) else (if t0 = 0 then some ((-1), S2) else ((f_X2_isFull N S2).bind (fun r54 => (if r54 = 0 then ((f_X2_add N S2 x1 x2 x3).bind (fun r70 => some ((r70.1), (r70.2)))) else some ((-2), S2)))))))))))
def f_X7_test_15 (N : Nat) (S7 : St) (S2 : St) (x1 : Int32) (x2 : Int32) (x3 : Int32) : Option (Int32 × St) := (f_X7_test_20 N S7  S2 x1 x2 x3 1)
def f_X7_test (N : Nat) (S7 : St) (S2 : St) (x1 : Int32) (x2 : Int32) (x3 : Int32) : Option (Int32 × St) := (if x3 = (-9) then (f_X7_test_15 N S7  S2 x1 x2 x3) else ((f_X7_isWithin N x3 0 3).bind (fun r9 => (if r9 = 0 then (f_X7_test_20 N S7  S2 x1 x2 x3 0) else (f_X7_test_15 N S7  S2 x1 x2 x3)))))
def f_X7_often (N : Nat) (S7 : St) (S2 : St) (x1 : Int32) (x2 : Int32) (x3 : Int32) : Option (Int32 × St) := ((f_X2_has N S2 x1).bind (fun r5 => (if r5 = 0 then some ((-1), S2) else ((f_X7_isHand N x2).bind (fun r12 => (if r12 = 0 then some ((-1), S2) else ((f_X7_isWithin N x3 0 16).bind (fun r22 => (if r22 = 0 then some ((-1), S2) else ((f_X2_isDone N S2 x1).bind (fun r35 => (if r35 = 0 then ((f_X2_swapOften N S2 x1 x2 x3).bind (fun r51 => some ((r51.1), (r51.2)))) else some ((-4), S2)))))))))))))
def f_X7_done (N : Nat) (S7 : St) (S2 : St) (x1 : Int32) (x2 : Int32) : Option (Int32 × St) := ((f_X2_has N S2 x1).bind (fun r5 => (if r5 = 0 then some ((-1), S2) else ((f_X2_isDone N S2 x1).bind (fun r18 => (if r18 = 0 then ((f_X2_finish N S2 x1 x2).bind (fun r33 => (if (r33.1) = 0 then some (0, (r33.2)) else some (1, (r33.2))))) else some ((-4), S2)))))))
def f_X7_commonDivisor_3_b (N : Nat) (k3 : Int64 → Int64 → Int32 → Option (Int64)) (x0 : Int64) (x2 : Int64) (x4 : Int32) : Option (Int64) := (if (lg_cmp x2 0) = 0 then some (x0) else (if 1000 ≤ x4 then some (x0) else (if x2 = 0 then none else (k3 x2 (x0 - x0 / x2 * x2) (x4 + 1)))))
def f_X7_commonDivisor_3 (N : Nat) : Nat → Int64 → Int64 → Int32 → Option (Int64)
  | 0, _, _, _ => none
  | n + 1, y0, y1, y2 => f_X7_commonDivisor_3_b N   (fun y0 y1 y2 => f_X7_commonDivisor_3 N   n y0 y1 y2) y0 y1 y2
def f_X7_commonDivisor (N : Nat) (x0 : Int64) (x2 : Int64) : Option (Int64) := (f_X7_commonDivisor_3 N   N x0 x2 0)
def f_X7_tellFraction (N : Nat) (S7 : St) (x1 : Int64) (x3 : Int64) : Option (St) := ((f_X7_commonDivisor N x1 x3).bind (fun r3 => (if (if r3 < 1 then 1 else r3) = 0 then none else (if (if r3 < 1 then 1 else r3) = 0 then none else some ((sL (sL S7 11 (x1 / (if r3 < 1 then 1 else r3))) 12 (x3 / (if r3 < 1 then 1 else r3))))))))
def f_X7_chance (N : Nat) (S7 : St) (S2 : St) (x1 : Int32) : Option (Int32 × St) := ((f_X7_isHand N x1).bind (fun r1 => (if r1 = 0 then some ((-1), S7) else ((f_X2_scoreOfAll N S2).bind (fun r13 => (if (lg_cmp r13 0) = 0 then ((f_X7_refuse N S7 4).bind (fun r25 => some ((r25.1), (r25.2)))) else ((f_X2_score N S2 x1).bind (fun r35 => ((f_X7_tellFraction N S7 r35 r13).bind (fun r39 => some (1, r39)))))))))))
def f_X7_likely (N : Nat) (S7 : St) (S2 : St) : Option (Int32 × St) := ((f_X2_scoreOfAll N S2).bind (fun r4 => (if (lg_cmp r4 0) = 0 then ((f_X7_refuse N S7 4).bind (fun r14 => some ((r14.1), (r14.2)))) else ((f_X2_likeliest N S2).bind (fun r22 => some (r22, S7))))))
def f_X7_gain (N : Nat) (S7 : St) (S2 : St) (x1 : Int32) : Option (Int32 × St) := ((f_X2_has N S2 x1).bind (fun r5 => (if r5 = 0 then some ((-1), S7) else ((f_X2_isOpen N S2 x1).bind (fun r18 => (if r18 = 0 then some ((-4), S7) else ((f_X2_scoreOfAll N S2).bind (fun r31 => (if (lg_cmp r31 0) = 0 then ((f_X7_refuse N S7 4).bind (fun r43 => some ((r43.1), (r43.2)))) else ((f_X2_gainOf N S2 x1).bind (fun r53 => ((f_X7_tellFraction N S7 r53 (16 * r31)).bind (fun r61 => some (1, r61))))))))))))))
def f_X7_next (N : Nat) (S7 : St) (S2 : St) (x1 : Int32) (x2 : Int32) : Option (Int32 × St) := (if x1 < 0 then some ((-1), S7) else (if 0 ≤ x2 then ((f_X2_scoreOfAll N S2).bind (fun r14 => (if (lg_cmp r14 0) = 0 then ((f_X7_refuse N S7 4).bind (fun r24 => some ((r24.1), (r24.2)))) else ((f_X2_best N S2 x1 x2).bind (fun r34 => some (r34, S7)))))) else some ((-1), S7)))
def f_X7_owner (N : Nat) (S7 : St) (S4 : St) (x1 : Int32) (x2 : Int32) : Option (Int32 × St) := ((f_X7_areYears N x1 x2).bind (fun r2 => (if r2 = 0 then some ((-1), S4) else ((f_X4_isFull N S4).bind (fun r14 => (if r14 = 0 then ((f_X4_add N S4 x1 x2).bind (fun r29 => some ((r29.1), (r29.2)))) else some ((-2), S4)))))))
def f_X7_gaps (N : Nat) (S7 : St) (S4 : St) (x1 : Int32) (x2 : Int32) : Option (Int32 × St × St) := ((f_X7_areYears N x1 x2).bind (fun r2 => (if r2 = 0 then some ((-1), S7, S4) else ((f_X4_findGaps N S4 x1 x2).bind (fun r16 => some ((r16.1 3), (sI S7 10 (r16.1 4)), r16))))))
def f_X7_opinion (N : Nat) (S7 : St) (S3 : St) (x1 : Int32) (x2 : Int32) (x3 : Int32) (x4 : Int32) : Option (Int32 × St) := ((f_X7_isWithin N x1 0 9).bind (fun r4 => (if r4 = 0 then some ((-1), S3) else ((f_X7_isHand N x2).bind (fun r11 => (if r11 = 0 then some ((-1), S3) else ((f_X7_isWithin N x3 0 100).bind (fun r21 => (if r21 = 0 then some ((-1), S3) else ((f_X3_isFull N S3).bind (fun r33 => (if r33 = 0 then ((f_X3_add N S3 x1 x2 x3 x4).bind (fun r51 => some ((r51.1), (r51.2)))) else some ((-2), S3)))))))))))))
def f_X7_mean (N : Nat) (S7 : St) (S3 : St) (x1 : Int32) (x2 : Int32) : Option (Int32 × St) := ((f_X7_isHand N x1).bind (fun r1 => (if r1 = 0 then some ((-1), S7) else ((f_X3_howMany N S3 x1 x2).bind (fun r15 => (if r15 = 0 then ((f_X7_refuse N S7 4).bind (fun r25 => some ((r25.1), (r25.2)))) else ((f_X3_sumOf N S3 x1 x2).bind (fun r35 => (if r15 = 0 then none else some ((r35 / r15), S7))))))))))
def f_X7_spread (N : Nat) (S7 : St) (S3 : St) : Option (Int32 × St × St) := ((f_X3_findSpread N S3).bind (fun r4 => (if (r4.1 5) = (-9) then some ((-9), S7, r4) else some ((r4.1 5), (sI S7 10 (r4.1 6)), r4))))
def f_X7_sold (N : Nat) (S7 : St) (S0 : St) (x1 : Int32) (x2 : Int32) (x3 : Int32) : Option (Int32 × St) := ((f_X7_isWithin N x1 0 (S7.1 8)).bind (fun r6 => (if r6 = 0 then some ((-1), S0) else ((f_X7_isWithin N x2 1 1000000).bind (fun r17 => (if r17 = 0 then some ((-1), S0) else ((f_X7_isHand N x3).bind (fun r24 => (if r24 = 0 then some ((-1), S0) else ((f_X0_sell N S0 x1 x2 x3).bind (fun r39 => some (1, r39))))))))))))
def f_X7_law_23 (N : Nat) (S7 : St) (S0 : St) (x1 : Int32) (x2 : Int32) (x3 : Int32) (x4 : Int32) (t0 : Int32) : Option (Int32 × St) := (if t0 = 0 then some ((-1), S0) else ((f_X7_isWithin N x3 0 100).bind (fun r34 => (if r34 = 0 then some ((-1), S0) else ((f_X7_isWithin N x4 0 100).bind (fun r45 => (if r45 = 0 then some ((-1), S0) else ((f_X0_isFull N S0).bind (fun r57 => (if r57 = 0 then ((f_X0_addLaw N S0 x1 x2 x3 x4).bind (fun r75 => some ((r75.1), (r75.2)))) else some ((-2), S0)))))))))))
def f_X7_law_22 (N : Nat) (S7 : St) (S0 : St) (x1 : Int32) (x2 : Int32) (x3 : Int32) (x4 : Int32) : Option (Int32 × St) := (f_X7_law_23 N S7  S0 x1 x2 x3 x4 0)
def f_X7_law (N : Nat) (S7 : St) (S0 : St) (x1 : Int32) (x2 : Int32) (x3 : Int32) (x4 : Int32) : Option (Int32 × St) := ((f_X7_isDay N x1).bind (fun r1 => (if r1 = 0 then (f_X7_law_22 N S7  S0 x1 x2 x3 x4) else ((f_X7_isWithin N x2 0 30000).bind (fun r12 => (if r12 = 0 then (f_X7_law_22 N S7  S0 x1 x2 x3 x4) else (f_X7_law_23 N S7  S0 x1 x2 x3 x4 1)))))))
def f_X7_claim (N : Nat) (S7 : St) (S2 : St) (S0 : St) : Option (Int32 × St) := ((f_X0_lawInForce N S0).bind (fun r4 => (if r4 = (-9) then some ((-4), S7) else ((f_X2_scoreOfAll N S2).bind (fun r21 => (if (lg_cmp r21 0) = 0 then ((f_X7_refuse N S7 4).bind (fun r33 => some ((r33.1), (r33.2)))) else ((f_X0_isTooLate N S0 r4 (S7.1 8)).bind (fun r46 => (if r46 = 0 then ((f_X2_score N S2 (S0.1 6)).bind (fun r70 => ((f_X0_isBelow N S0 r4 r70 r21).bind (fun r74 => (if r74 = 0 then some (3, S7) else ((f_X0_paidBack N S0 r4 (S7.1 8)).bind (fun r92 => some (1, (sI S7 10 r92))))))))) else some (2, S7))))))))))
def f_X7_asked (N : Nat) (S7 : St) : Option (Int32) := some ((S7.1 10))
def f_X7_upper (N : Nat) (S7 : St) : Option (Int64) := some ((S7.2.1 11))
def f_X7_lower (N : Nat) (S7 : St) : Option (Int64) := some ((S7.2.1 12))
def f_X7_count (N : Nat) (S7 : St) (S5 : St) (S2 : St) (S4 : St) (S3 : St) (S0 : St) (x1 : Int32) : Option (Int32) := (if x1 = 0 then some ((S7.1 8)) else (if x1 = 1 then some ((S5.1 13)) else (if x1 = 2 then some (((S5.1 13) - (S5.1 14))) else (if x1 = 3 then some ((S2.1 8)) else (if x1 = 4 then some ((S2.1 9)) else (if x1 = 5 then some ((S4.1 2)) else (if x1 = 6 then some ((S3.1 4)) else (if x1 = 7 then some ((S0.1 7)) else some ((-1))))))))))
def f_X7_finding (N : Nat) (S7 : St) : Option (Int32) := some ((S7.1 9))
def f_X7_findings (N : Nat) (S7 : St) (x1 : Int32) : Option (Int32) := ((f_X7_isWithin N x1 1 5).bind (fun r3 => (if r3 = 0 then some ((-1)) else (if inb x1 6 = true then some (((S7.2.2 7) (Int32.toNatClampNeg x1))) else none))))
def f_X7_digest_47_b (N : Nat) (S7 : St) (S5 : St) (S6 : St) (S2 : St) (S4 : St) (S3 : St) (S0 : St) (k33 : Int64 → Int32 → Option (Int64)) (k47 : Int64 → Int32 → Int32 → Option (Int64)) (x1 : Int64) (x3 : Int32) (x4 : Int32) : Option (Int64) := (if 5 < x4 then (k33 x1 (x3 + 1)) else ((f_X5_detail N S5 S6 x3 x4).bind (fun r65 => (k47 ((31 * x1) + (Int32.toInt64 r65)) x3 (x4 + 1)))))
def f_X7_digest_47 (N : Nat) (S7 : St) (S5 : St) (S6 : St) (S2 : St) (S4 : St) (S3 : St) (S0 : St) (k33 : Int64 → Int32 → Option (Int64)) : Nat → Int64 → Int32 → Int32 → Option (Int64)
  | 0, _, _, _ => none
  | n + 1, y0, y1, y2 => f_X7_digest_47_b N S7 S5 S6 S2 S4 S3 S0 k33 (fun y0 y1 y2 => f_X7_digest_47 N S7 S5 S6 S2 S4 S3 S0 k33 n y0 y1 y2) y0 y1 y2
def f_X7_digest_33_b (N : Nat) (S7 : St) (S5 : St) (S6 : St) (S2 : St) (S4 : St) (S3 : St) (S0 : St) (k33 : Int64 → Int32 → Option (Int64)) (x1 : Int64) (x3 : Int32) : Option (Int64) := (if (S5.1 13) ≤ x3 then ((f_X2_mixInto N S2 x1).bind (fun r88 => ((f_X5_mixPaintsInto N S5 r88).bind (fun r97 => ((f_X6_mixInto N S6 r97).bind (fun r106 => some (r106))))))) else (f_X7_digest_47 N S7 S5 S6 S2 S4 S3 S0 k33 N x1 x3 0))
def f_X7_digest_33 (N : Nat) (S7 : St) (S5 : St) (S6 : St) (S2 : St) (S4 : St) (S3 : St) (S0 : St) : Nat → Int64 → Int32 → Option (Int64)
  | 0, _, _ => none
  | n + 1, y0, y1 => f_X7_digest_33_b N S7 S5 S6 S2 S4 S3 S0  (fun y0 y1 => f_X7_digest_33 N S7 S5 S6 S2 S4 S3 S0  n y0 y1) y0 y1
def f_X7_digest_6_b (N : Nat) (S7 : St) (S5 : St) (S6 : St) (S2 : St) (S4 : St) (S3 : St) (S0 : St) (k6 : Int64 → Int32 → Option (Int64)) (x1 : Int64) (x3 : Int32) : Option (Int64) := (if 7 < x3 then (f_X7_digest_33 N S7 S5 S6 S2 S4 S3 S0  N x1 0) else ((f_X7_count N S7 S5 S2 S4 S3 S0 x3).bind (fun r19 => (k6 ((31 * x1) + (Int32.toInt64 r19)) (x3 + 1)))))
def f_X7_digest_6 (N : Nat) (S7 : St) (S5 : St) (S6 : St) (S2 : St) (S4 : St) (S3 : St) (S0 : St) : Nat → Int64 → Int32 → Option (Int64)
  | 0, _, _ => none
  | n + 1, y0, y1 => f_X7_digest_6_b N S7 S5 S6 S2 S4 S3 S0  (fun y0 y1 => f_X7_digest_6 N S7 S5 S6 S2 S4 S3 S0  n y0 y1) y0 y1
def f_X7_digest (N : Nat) (S7 : St) (S5 : St) (S6 : St) (S2 : St) (S4 : St) (S3 : St) (S0 : St) : Option (Int64) := (f_X7_digest_6 N S7 S5 S6 S2 S4 S3 S0  N 17 0)

def f_X8_in (N : Nat) (x0 : Int32) (x1 : Int32) (x2 : Int32) : Option (Int32) := (if x0 < x1 then some (0) else (if x2 < x0 then some (0) else some (1)))
def f_X8_meets (N : Nat) (S8 : St) (x1 : Int32) : Option (Int32 × St) := (if inb x1 6 = true then (if inb x1 6 = true then some ((-3), (sA (sI S8 0 x1) 1 (upd (S8.2.2 1) (Int32.toNatClampNeg x1) (((S8.2.2 1) (Int32.toNatClampNeg x1)) + 1)))) else none) else none)
def f_X8_finding (N : Nat) (S8 : St) : Option (Int32) := some ((S8.1 0))
def f_X8_findings (N : Nat) (S8 : St) (x1 : Int32) : Option (Int32) := ((f_X8_in N x1 1 5).bind (fun r3 => (if r3 = 0 then some ((-1)) else (if inb x1 6 = true then some (((S8.2.2 1) (Int32.toNatClampNeg x1))) else none))))
def f_X8_tells (N : Nat) (S8 : St) (x1 : Int32) (x2 : Int32) : Option (Int32 × St) := some (x2, (sI S8 2 x1))
def f_X8_asked (N : Nat) (S8 : St) : Option (Int32) := some ((S8.1 2))
def f_X8_fraction_17_b (N : Nat) (k17 : St → Int64 → Int64 → Int32 → Int64 → Int64 → Option (Int32 × St)) (S8 : St) (x1 : Int64) (x3 : Int64) (x5 : Int32) (x6 : Int64) (x8 : Int64) : Option (Int32 × St) := (if (lg_cmp x8 0) = 0 then (if x6 = 0 then none else (if x6 = 0 then none else some (x5, (sL (sL S8 3 (x1 / x6)) 4 (x3 / x6))))) else (if x8 = 0 then none else (k17 S8 x1 x3 x5 x8 (x6 - x6 / x8 * x8))))
def f_X8_fraction_17 (N : Nat) : Nat → St → Int64 → Int64 → Int32 → Int64 → Int64 → Option (Int32 × St)
  | 0, _, _, _, _, _, _ => none
  | n + 1, y0, y1, y2, y3, y4, y5 => f_X8_fraction_17_b N   (fun y0 y1 y2 y3 y4 y5 => f_X8_fraction_17 N   n y0 y1 y2 y3 y4 y5) y0 y1 y2 y3 y4 y5
def f_X8_fraction_12 (N : Nat) (S8 : St) (x1 : Int64) (x3 : Int64) (x5 : Int32) (t0 : Int64) : Option (Int32 × St) := (f_X8_fraction_17 N   N S8 x1 x3 x5 t0 x3)
def f_X8_fraction (N : Nat) (S8 : St) (x1 : Int64) (x3 : Int64) (x5 : Int32) : Option (Int32 × St) := (if 0 ≤ (lg_cmp x1 0) then (f_X8_fraction_12 N   S8 x1 x3 x5 x1) else (f_X8_fraction_12 N   S8 x1 x3 x5 (-x1)))
def f_X8_upper (N : Nat) (S8 : St) : Option (Int64) := some ((S8.2.1 3))
def f_X8_lower (N : Nat) (S8 : St) : Option (Int64) := some ((S8.2.1 4))
def f_X8_later (N : Nat) (S8 : St) (x1 : Int32) : Option (Int32 × St) := (if x1 < 0 then some ((-1), S8) else (if x1 ≤ (30000 - (S8.1 5)) then some (((S8.1 5) + x1), (sI S8 5 ((S8.1 5) + x1))) else some ((-1), S8)))
def f_X8_isDay (N : Nat) (x0 : Int32) : Option (Int32) := ((f_X8_in N x0 0 30000).bind (fun r5 => (if z01 r5 = true then some (r5) else none)))
def f_X8_isYear (N : Nat) (x0 : Int32) : Option (Int32) := ((f_X8_in N x0 1000 2100).bind (fun r7 => (if z01 r7 = true then some (r7) else none)))
def f_X8_isRow (N : Nat) (x0 : Int32) : Option (Int32) := ((f_X8_in N x0 0 5).bind (fun r3 => (if z01 r3 = true then some (r3) else none)))
def f_X8_row_34_b (N : Nat) (k34 : St → Int32 → Int32 → Int32 → Option (Int32 × St)) (S8 : St) (x1 : Int32) (x2 : Int32) (x3 : Int32) : Option (Int32 × St) := (if 40 ≤ x3 then some (x2, S8) else (if inb ((40 * x1) + x3) 240 = true then (k34 (sA S8 7 (upd (S8.2.2 7) (Int32.toNatClampNeg ((40 * x1) + x3)) (vp_nar .byte 0))) x1 x2 (x3 + 1)) else none))
def f_X8_row_34 (N : Nat) : Nat → St → Int32 → Int32 → Int32 → Option (Int32 × St)
  | 0, _, _, _, _ => none
  | n + 1, y0, y1, y2, y3 => f_X8_row_34_b N   (fun y0 y1 y2 y3 => f_X8_row_34 N   n y0 y1 y2 y3) y0 y1 y2 y3
def f_X8_row (N : Nat) (S8 : St) (x1 : Int32) (x2 : Int32) : Option (Int32 × St) := ((f_X8_isRow N x1).bind (fun r1 => (if r1 = 0 then some ((-1), S8) else (if x2 ≤ 40 then (if 0 ≤ x2 then (if inb x1 6 = true then (f_X8_row_34 N   N (sA S8 6 (upd (S8.2.2 6) (Int32.toNatClampNeg x1) x2)) x1 x2 0) else none) else ((f_X8_meets N S8 5).bind (fun r21 => some ((r21.1), (r21.2))))) else some ((-1), S8)))))
def f_X8_lay (N : Nat) (S8 : St) (x1 : Int32) (x2 : Int32) (x3 : Int32) : Option (Int32 × St) := ((f_X8_isRow N x1).bind (fun r1 => (if r1 = 0 then some ((-1), S8) else (if inb x1 6 = true then (if 0 ≤ ((S8.2.2 6) (Int32.toNatClampNeg x1)) then (if inb x1 6 = true then ((f_X8_in N x2 0 (((S8.2.2 6) (Int32.toNatClampNeg x1)) - 1)).bind (fun r34 => (if r34 = 0 then ((f_X8_meets N S8 2).bind (fun r42 => some ((r42.1), (r42.2)))) else (if inb ((40 * x1) + x2) 240 = true then (if inb ((40 * x1) + x2) 240 = true then some ((1000 + ((S8.2.2 7) (Int32.toNatClampNeg ((40 * x1) + x2)))), (sA S8 7 (upd (S8.2.2 7) (Int32.toNatClampNeg ((40 * x1) + x2)) (vp_nar .byte (Int8.toInt32 (Int32.toInt8 x3)))))) else none) else none)))) else none) else ((f_X8_meets N S8 1).bind (fun r20 => some ((r20.1), (r20.2))))) else none))))
def f_X8_tear (N : Nat) (S8 : St) (x1 : Int32) : Option (Int32 × St) := ((f_X8_isRow N x1).bind (fun r1 => (if r1 = 0 then some ((-1), S8) else (if inb x1 6 = true then (if 0 ≤ ((S8.2.2 6) (Int32.toNatClampNeg x1)) then (if inb x1 6 = true then some (1, (sA S8 6 (upd (S8.2.2 6) (Int32.toNatClampNeg x1) (-1)))) else none) else ((f_X8_meets N S8 1).bind (fun r20 => some ((r20.1), (r20.2))))) else none))))
def f_X8_copy_34 (N : Nat) (S8 : St) : Option (Int32 × St) := ((f_X8_meets N S8 1).bind (fun r36 => some ((r36.1), (r36.2))))
def f_X8_copy_89 (N : Nat) (S8 : St) : Option (Int32 × St) := ((f_X8_meets N S8 2).bind (fun r91 => some ((r91.1), (r91.2))))
def f_X8_copy_135_b (N : Nat) (k135 : St → Int32 → Int32 → Int32 → Int32 → Option (Int32 × St)) (S8 : St) (x3 : Int32) (x4 : Int32) (x5 : Int32) (x6 : Int32) : Option (Int32 × St) := (if x5 ≤ x6 then some (1, S8) else (if inb x6 40 = true then (if inb (((40 * x3) + x4) + x6) 240 = true then (k135 (sA S8 7 (upd (S8.2.2 7) (Int32.toNatClampNeg (((40 * x3) + x4) + x6)) (vp_nar .byte ((S8.2.2 8) (Int32.toNatClampNeg x6))))) x3 x4 x5 (x6 + 1)) else none) else none))
def f_X8_copy_135 (N : Nat) : Nat → St → Int32 → Int32 → Int32 → Int32 → Option (Int32 × St)
  | 0, _, _, _, _, _ => none
  | n + 1, y0, y1, y2, y3, y4 => f_X8_copy_135_b N   (fun y0 y1 y2 y3 y4 => f_X8_copy_135 N   n y0 y1 y2 y3 y4) y0 y1 y2 y3 y4
def f_X8_copy_98_b (N : Nat) (k98 : St → Int32 → Int32 → Int32 → Int32 → Int32 → Int32 → Option (Int32 × St)) (S8 : St) (x1 : Int32) (x2 : Int32) (x3 : Int32) (x4 : Int32) (x5 : Int32) (x6 : Int32) : Option (Int32 × St) := (if x5 ≤ x6 then (f_X8_copy_135 N   N S8 x3 x4 x5 0) else (if inb (((40 * x1) + x2) + x6) 240 = true then (if inb x6 40 = true then (k98 (sA S8 8 (upd (S8.2.2 8) (Int32.toNatClampNeg x6) (vp_nar .byte ((S8.2.2 7) (Int32.toNatClampNeg (((40 * x1) + x2) + x6)))))) x1 x2 x3 x4 x5 (x6 + 1)) else none) else none))
def f_X8_copy_98 (N : Nat) : Nat → St → Int32 → Int32 → Int32 → Int32 → Int32 → Int32 → Option (Int32 × St)
  | 0, _, _, _, _, _, _, _ => none
  | n + 1, y0, y1, y2, y3, y4, y5, y6 => f_X8_copy_98_b N   (fun y0 y1 y2 y3 y4 y5 y6 => f_X8_copy_98 N   n y0 y1 y2 y3 y4 y5 y6) y0 y1 y2 y3 y4 y5 y6
def f_X8_copy (N : Nat) (S8 : St) (x1 : Int32) (x2 : Int32) (x3 : Int32) (x4 : Int32) (x5 : Int32) : Option (Int32 × St) := ((f_X8_isRow N x1).bind (fun r1 => (if r1 = 0 then some ((-1), S8) else ((f_X8_isRow N x3).bind (fun r8 => (if r8 = 0 then some ((-1), S8) else (if inb x1 6 = true then (if ((S8.2.2 6) (Int32.toNatClampNeg x1)) < 0 then (f_X8_copy_34 N   S8) else (if inb x3 6 = true then (if 0 ≤ ((S8.2.2 6) (Int32.toNatClampNeg x3)) then (if x2 < 0 then (f_X8_copy_89 N   S8) else (if x4 < 0 then (f_X8_copy_89 N   S8) else (if x5 < 0 then (f_X8_copy_89 N   S8) else (if inb x1 6 = true then (if 0 < (lg_cmp ((Int32.toInt64 x2) + (Int32.toInt64 x5)) (Int32.toInt64 ((S8.2.2 6) (Int32.toNatClampNeg x1)))) then (f_X8_copy_89 N   S8) else (if inb x3 6 = true then (if (lg_cmp ((Int32.toInt64 x4) + (Int32.toInt64 x5)) (Int32.toInt64 ((S8.2.2 6) (Int32.toNatClampNeg x3)))) ≤ 0 then (f_X8_copy_98 N   N S8 x1 x2 x3 x4 x5 0) else (f_X8_copy_89 N   S8)) else none)) else none)))) else (f_X8_copy_34 N   S8)) else none)) else none)))))))
def f_X8_offAt_61 (N : Nat) (S8 : St) (k6 : Int32 → Int32 → Int32 → Int32 → Int32 → Option (Int32)) (x1 : Int32) (x2 : Int32) (x3 : Int32) (x5 : Int32) (t0 : Int32) (t1 : Int32) : Option (Int32) := (k6 x1 x2 x3 (t1 + t0) (x5 + 1))
def f_X8_offAt_6_b (N : Nat) (S8 : St) (k6 : Int32 → Int32 → Int32 → Int32 → Int32 → Option (Int32)) (x1 : Int32) (x2 : Int32) (x3 : Int32) (x4 : Int32) (x5 : Int32) : Option (Int32) := (if inb x1 6 = true then (if ((S8.2.2 6) (Int32.toNatClampNeg x1)) ≤ x5 then some (x4) else (if inb ((40 * x1) + x5) 240 = true then (if inb (((40 * x2) + x3) + x5) 240 = true then (if 0 ≤ (((S8.2.2 7) (Int32.toNatClampNeg ((40 * x1) + x5))) - ((S8.2.2 7) (Int32.toNatClampNeg (((40 * x2) + x3) + x5)))) then (f_X8_offAt_61 N S8 k6 x1 x2 x3 x5 (((S8.2.2 7) (Int32.toNatClampNeg ((40 * x1) + x5))) - ((S8.2.2 7) (Int32.toNatClampNeg (((40 * x2) + x3) + x5)))) x4) else (f_X8_offAt_61 N S8 k6 x1 x2 x3 x5 (-(((S8.2.2 7) (Int32.toNatClampNeg ((40 * x1) + x5))) - ((S8.2.2 7) (Int32.toNatClampNeg (((40 * x2) + x3) + x5))))) x4)) else none) else none)) else none)
def f_X8_offAt_6 (N : Nat) (S8 : St) : Nat → Int32 → Int32 → Int32 → Int32 → Int32 → Option (Int32)
  | 0, _, _, _, _, _ => none
  | n + 1, y0, y1, y2, y3, y4 => f_X8_offAt_6_b N S8  (fun y0 y1 y2 y3 y4 => f_X8_offAt_6 N S8  n y0 y1 y2 y3 y4) y0 y1 y2 y3 y4
def f_X8_offAt (N : Nat) (S8 : St) (x1 : Int32) (x2 : Int32) (x3 : Int32) : Option (Int32) := (f_X8_offAt_6 N S8  N x1 x2 x3 0 0)
def f_X8_placeOf_47 (N : Nat) (S8 : St) (k5 : Int32 → Int32 → Int32 → Int32 → Option (Int32)) (x1 : Int32) (x2 : Int32) (x4 : Int32) (t0 : Int32) : Option (Int32) := (k5 x1 x2 t0 (x4 + 1))
def f_X8_placeOf_5_b (N : Nat) (S8 : St) (k5 : Int32 → Int32 → Int32 → Int32 → Option (Int32)) (x1 : Int32) (x2 : Int32) (x3 : Int32) (x4 : Int32) : Option (Int32) := (if inb x1 6 = true then (if inb x2 6 = true then (if ((S8.2.2 6) (Int32.toNatClampNeg x2)) < (x4 + ((S8.2.2 6) (Int32.toNatClampNeg x1))) then some (x3) else ((f_X8_offAt N S8 x1 x2 x4).bind (fun r28 => ((f_X8_offAt N S8 x1 x2 x3).bind (fun r35 => (if r35 ≤ r28 then (f_X8_placeOf_47 N S8 k5 x1 x2 x4 x3) else (f_X8_placeOf_47 N S8 k5 x1 x2 x4 x4))))))) else none) else none)
def f_X8_placeOf_5 (N : Nat) (S8 : St) : Nat → Int32 → Int32 → Int32 → Int32 → Option (Int32)
  | 0, _, _, _, _ => none
  | n + 1, y0, y1, y2, y3 => f_X8_placeOf_5_b N S8  (fun y0 y1 y2 y3 => f_X8_placeOf_5 N S8  n y0 y1 y2 y3) y0 y1 y2 y3
def f_X8_placeOf (N : Nat) (S8 : St) (x1 : Int32) (x2 : Int32) : Option (Int32) := (f_X8_placeOf_5 N S8  N x1 x2 0 1)
def f_X8_mayMatch (N : Nat) (S8 : St) (x1 : Int32) (x2 : Int32) : Option (Int32) := (if inb x1 6 = true then (if ((S8.2.2 6) (Int32.toNatClampNeg x1)) ≤ 0 then some (0) else (if inb x2 6 = true then (if inb x1 6 = true then (if ((S8.2.2 6) (Int32.toNatClampNeg x2)) < ((S8.2.2 6) (Int32.toNatClampNeg x1)) then some (0) else some (1)) else none) else none)) else none)
def f_X8_match_39 (N : Nat) (S8 : St) : Option (Int32 × St) := ((f_X8_meets N S8 1).bind (fun r41 => some ((r41.1), (r41.2))))
def f_X8_match (N : Nat) (S8 : St) (x1 : Int32) (x2 : Int32) : Option (Int32 × St) := ((f_X8_isRow N x1).bind (fun r1 => (if r1 = 0 then some ((-1), S8) else ((f_X8_isRow N x2).bind (fun r8 => (if r8 = 0 then some ((-1), S8) else (if x1 = x2 then some ((-1), S8) else (if inb x1 6 = true then (if ((S8.2.2 6) (Int32.toNatClampNeg x1)) < 0 then (f_X8_match_39 N   S8) else (if inb x2 6 = true then (if 0 ≤ ((S8.2.2 6) (Int32.toNatClampNeg x2)) then ((f_X8_mayMatch N S8 x1 x2).bind (fun r48 => (if r48 = 0 then ((f_X8_meets N S8 5).bind (fun r56 => some ((r56.1), (r56.2)))) else ((f_X8_placeOf N S8 x1 x2).bind (fun r63 => ((f_X8_offAt N S8 x1 x2 r63).bind (fun r72 => ((f_X8_tells N S8 r72 r63).bind (fun r76 => some ((r76.1), (r76.2))))))))))) else (f_X8_match_39 N   S8)) else none)) else none))))))))
def f_X8_isSure_89 (N : Nat) (S8 : St) (k30 : Int32 → Int32 → Int32 → Int32 → Int32 → Option (Int32)) (x1 : Int32) (x2 : Int32) (x3 : Int32) (x4 : Int32) (x5 : Int32) : Option (Int32) := (k30 x1 x2 x3 x4 (x5 + 1))
def f_X8_isSure_87 (N : Nat) (S8 : St) (k30 : Int32 → Int32 → Int32 → Int32 → Int32 → Option (Int32)) (x1 : Int32) (x2 : Int32) (x3 : Int32) (x5 : Int32) (t0 : Int32) : Option (Int32) := (f_X8_isSure_89 N S8 k30 x1 x2 x3 t0 x5)
def f_X8_isSure_86 (N : Nat) (S8 : St) (k30 : Int32 → Int32 → Int32 → Int32 → Int32 → Option (Int32)) (x1 : Int32) (x2 : Int32) (x3 : Int32) (x5 : Int32) : Option (Int32) := (f_X8_isSure_87 N S8 k30 x1 x2 x3 x5 0)
def f_X8_isSure_30_b (N : Nat) (S8 : St) (k30 : Int32 → Int32 → Int32 → Int32 → Int32 → Option (Int32)) (x1 : Int32) (x2 : Int32) (x3 : Int32) (x4 : Int32) (x5 : Int32) : Option (Int32) := (if 6 ≤ x5 then (if z01 x4 = true then some (x4) else none) else (if x5 = x1 then (f_X8_isSure_89 N S8 k30 x1 x2 x3 x4 x5) else (if x5 = x2 then (f_X8_isSure_89 N S8 k30 x1 x2 x3 x4 x5) else ((f_X8_mayMatch N S8 x1 x5).bind (fun r53 => (if r53 = 0 then (f_X8_isSure_89 N S8 k30 x1 x2 x3 x4 x5) else (if x4 = 0 then (f_X8_isSure_86 N S8 k30 x1 x2 x3 x5) else ((f_X8_placeOf N S8 x1 x5).bind (fun r72 => ((f_X8_offAt N S8 x1 x5 r72).bind (fun r75 => (if r75 ≤ x3 then (f_X8_isSure_86 N S8 k30 x1 x2 x3 x5) else (f_X8_isSure_87 N S8 k30 x1 x2 x3 x5 1)))))))))))))
def f_X8_isSure_30 (N : Nat) (S8 : St) : Nat → Int32 → Int32 → Int32 → Int32 → Int32 → Option (Int32)
  | 0, _, _, _, _, _ => none
  | n + 1, y0, y1, y2, y3, y4 => f_X8_isSure_30_b N S8  (fun y0 y1 y2 y3 y4 => f_X8_isSure_30 N S8  n y0 y1 y2 y3 y4) y0 y1 y2 y3 y4
def f_X8_isSure (N : Nat) (S8 : St) (x1 : Int32) (x2 : Int32) : Option (Int32) := ((f_X8_mayMatch N S8 x1 x2).bind (fun r3 => (if r3 = 0 then some (0) else ((f_X8_placeOf N S8 x1 x2).bind (fun r17 => ((f_X8_offAt N S8 x1 x2 r17).bind (fun r20 => (f_X8_isSure_30 N S8  N x1 x2 r20 1 0))))))))
def f_X8_sure_19 (N : Nat) (S8 : St) : Option (Int32) := some ((-1))
def f_X8_sure (N : Nat) (S8 : St) (x1 : Int32) (x2 : Int32) : Option (Int32) := ((f_X8_isRow N x1).bind (fun r1 => (if r1 = 0 then (f_X8_sure_19 N S8  ) else ((f_X8_isRow N x2).bind (fun r8 => (if r8 = 0 then (f_X8_sure_19 N S8  ) else (if x1 = x2 then (f_X8_sure_19 N S8  ) else ((f_X8_isSure N S8 x1 x2).bind (fun r26 => (if r26 = 0 then some (0) else some (1)))))))))))
def f_X8_paint (N : Nat) (S8 : St) (x1 : Int32) (x2 : Int32) : Option (Int32 × St) := ((f_X8_in N x1 0 9).bind (fun r4 => (if r4 = 0 then some ((-1), S8) else ((f_X8_isYear N x2).bind (fun r11 => (if r11 = 0 then some ((-1), S8) else (if inb x1 10 = true then (if inb x1 10 = true then some (((S8.2.2 9) (Int32.toNatClampNeg x1)), (sA S8 9 (upd (S8.2.2 9) (Int32.toNatClampNeg x1) x2))) else none) else none)))))))
def f_X8_sap (N : Nat) (S8 : St) (x1 : Int32) (x2 : Int32) (x3 : Int32) : Option (Int32 × St) := ((f_X8_in N x1 0 60).bind (fun r4 => (if r4 = 0 then some ((-1), S8) else ((f_X8_in N x2 x1 60).bind (fun r14 => (if r14 = 0 then some ((-1), S8) else ((f_X8_in N x3 0 60).bind (fun r24 => (if r24 = 0 then some ((-1), S8) else some (1, (sI (sI (sI S8 10 x1) 11 x2) 12 x3)))))))))))
def f_X8_comes (N : Nat) (S8 : St) (x1 : Int32) (x2 : Int32) (x3 : Int32) (x4 : Int32) (x5 : Int32) (x6 : Int32) (x7 : Int32) : Option (Int32 × St) := (if x1 = 0 then some ((-1), S8) else ((f_X8_in N x3 1 9).bind (fun r8 => (if r8 = 0 then some ((-1), S8) else (if (S8.1 13) = 24 then some ((-2), S8) else (if inb (S8.1 13) 24 = true then (if inb (S8.1 13) 24 = true then (if inb (S8.1 13) 24 = true then (if inb (S8.1 13) 24 = true then (if inb (S8.1 13) 24 = true then (if inb (S8.1 13) 24 = true then (if inb (S8.1 13) 24 = true then (if inb (S8.1 13) 24 = true then some ((((S8.1 13) + 1) - 1), (sI (sA (sA (sA (sA (sA (sA (sA (sA S8 14 (upd (S8.2.2 14) (Int32.toNatClampNeg (S8.1 13)) x2)) 15 (upd (S8.2.2 15) (Int32.toNatClampNeg (S8.1 13)) x3)) 16 (upd (S8.2.2 16) (Int32.toNatClampNeg (S8.1 13)) (S8.1 5))) 17 (upd (S8.2.2 17) (Int32.toNatClampNeg (S8.1 13)) (-9))) 18 (upd (S8.2.2 18) (Int32.toNatClampNeg (S8.1 13)) x4)) 19 (upd (S8.2.2 19) (Int32.toNatClampNeg (S8.1 13)) x5)) 20 (upd (S8.2.2 20) (Int32.toNatClampNeg (S8.1 13)) x6)) 21 (upd (S8.2.2 21) (Int32.toNatClampNeg (S8.1 13)) x7)) 13 ((S8.1 13) + 1))) else none) else none) else none) else none) else none) else none) else none) else none))))))
def f_X8_proof_24 (N : Nat) (S8 : St) (x1 : Int32) (x2 : Int32) (x3 : Int32) (t0 : Int32) : Option (Int32 × St) := ((f_X8_comes N S8 t0 0 x3 x1 x2 0 0).bind (fun r30 => some ((r30.1), (r30.2))))
def f_X8_proof_23 (N : Nat) (S8 : St) (x1 : Int32) (x2 : Int32) (x3 : Int32) : Option (Int32 × St) := (f_X8_proof_24 N   S8 x1 x2 x3 0)
def f_X8_proof (N : Nat) (S8 : St) (x1 : Int32) (x2 : Int32) (x3 : Int32) : Option (Int32 × St) := ((f_X8_isYear N x1).bind (fun r2 => (if r2 = 0 then (f_X8_proof_23 N   S8 x1 x2 x3) else ((f_X8_in N x2 x1 2100).bind (fun r13 => (if r13 = 0 then (f_X8_proof_23 N   S8 x1 x2 x3) else (f_X8_proof_24 N   S8 x1 x2 x3 1)))))))
def f_X8_found (N : Nat) (S8 : St) (x1 : Int32) (x2 : Int32) : Option (Int32 × St) := ((f_X8_in N x1 0 9).bind (fun r5 => ((f_X8_comes N S8 r5 1 x2 x1 0 0 0).bind (fun r14 => some ((r14.1), (r14.2))))))
def f_X8_rings_29 (N : Nat) (S8 : St) (x1 : Int32) (x2 : Int32) (x3 : Int32) (t0 : Int32) : Option (Int32 × St) := ((f_X8_comes N S8 t0 2 x3 x1 x2 0 0).bind (fun r35 => some ((r35.1), (r35.2))))
def f_X8_rings_28 (N : Nat) (S8 : St) (x1 : Int32) (x2 : Int32) (x3 : Int32) : Option (Int32 × St) := (f_X8_rings_29 N   S8 x1 x2 x3 0)
def f_X8_rings (N : Nat) (S8 : St) (x1 : Int32) (x2 : Int32) (x3 : Int32) : Option (Int32 × St) := ((f_X8_in N x1 1000 2000).bind (fun r8 => (if r8 = 0 then (f_X8_rings_28 N   S8 x1 x2 x3) else ((f_X8_in N x2 0 30).bind (fun r18 => (if r18 = 0 then (f_X8_rings_28 N   S8 x1 x2 x3) else (f_X8_rings_29 N   S8 x1 x2 x3 1)))))))
def f_X8_threads_44 (N : Nat) (S8 : St) (x1 : Int32) (x2 : Int32) (x3 : Int32) (x4 : Int32) (x5 : Int32) (t0 : Int32) : Option (Int32 × St) := ((f_X8_comes N S8 t0 3 x5 x3 x4 x1 x2).bind (fun r52 => some ((r52.1), (r52.2))))
def f_X8_threads_43 (N : Nat) (S8 : St) (x1 : Int32) (x2 : Int32) (x3 : Int32) (x4 : Int32) (x5 : Int32) : Option (Int32 × St) := (f_X8_threads_44 N   S8 x1 x2 x3 x4 x5 0)
def f_X8_threads (N : Nat) (S8 : St) (x1 : Int32) (x2 : Int32) (x3 : Int32) (x4 : Int32) (x5 : Int32) : Option (Int32 × St) := ((f_X8_isRow N x1).bind (fun r2 => (if r2 = 0 then (f_X8_threads_43 N   S8 x1 x2 x3 x4 x5) else ((f_X8_isRow N x2).bind (fun r9 => (if r9 = 0 then (f_X8_threads_43 N   S8 x1 x2 x3 x4 x5) else (if x1 = x2 then (f_X8_threads_43 N   S8 x1 x2 x3 x4 x5) else ((f_X8_isYear N x3).bind (fun r21 => (if r21 = 0 then (f_X8_threads_43 N   S8 x1 x2 x3 x4 x5) else ((f_X8_in N x4 x3 2100).bind (fun r33 => (if r33 = 0 then (f_X8_threads_43 N   S8 x1 x2 x3 x4 x5) else (f_X8_threads_44 N   S8 x1 x2 x3 x4 x5 1))))))))))))))
def f_X8_isProof (N : Nat) (S8 : St) (x1 : Int32) : Option (Int32) := ((f_X8_in N x1 0 ((S8.1 13) - 1)).bind (fun r8 => (if z01 r8 = true then some (r8) else none)))
def f_X8_strike (N : Nat) (S8 : St) (x1 : Int32) : Option (Int32 × St) := ((f_X8_isProof N S8 x1).bind (fun r2 => (if r2 = 0 then some ((-1), S8) else (if inb x1 24 = true then (if ((S8.2.2 17) (Int32.toNatClampNeg x1)) = (-9) then (if inb x1 24 = true then some (1, (sA S8 17 (upd (S8.2.2 17) (Int32.toNatClampNeg x1) (S8.1 5)))) else none) else some ((-4), S8)) else none))))
def f_X8_lack (N : Nat) (x0 : Int32) (x1 : Int32) : Option (Int32) := (if x0 ≤ x1 then some (0) else some ((x0 - x1)))
def f_X8_fromOf (N : Nat) (S8 : St) (x1 : Int32) : Option (Int32) := (if inb x1 24 = true then (if ((S8.2.2 14) (Int32.toNatClampNeg x1)) = 1 then (if inb x1 24 = true then (if inb ((S8.2.2 18) (Int32.toNatClampNeg x1)) 10 = true then some (((S8.2.2 9) (Int32.toNatClampNeg ((S8.2.2 18) (Int32.toNatClampNeg x1))))) else none) else none) else (if ((S8.2.2 14) (Int32.toNatClampNeg x1)) = 2 then (if inb x1 24 = true then (if inb x1 24 = true then ((f_X8_lack N (S8.1 10) ((S8.2.2 19) (Int32.toNatClampNeg x1))).bind (fun r60 => some ((((S8.2.2 18) (Int32.toNatClampNeg x1)) + r60)))) else none) else none) else (if ((S8.2.2 14) (Int32.toNatClampNeg x1)) = 3 then (if inb x1 24 = true then (if inb x1 24 = true then ((f_X8_isSure N S8 ((S8.2.2 20) (Int32.toNatClampNeg x1)) ((S8.2.2 21) (Int32.toNatClampNeg x1))).bind (fun r78 => (if r78 = 0 then some (1000) else (if inb x1 24 = true then some (((S8.2.2 18) (Int32.toNatClampNeg x1))) else none)))) else none) else none) else (if inb x1 24 = true then some (((S8.2.2 18) (Int32.toNatClampNeg x1))) else none)))) else none)
def f_X8_toOf_110 (N : Nat) (S8 : St) (x2 : Int32) : Option (Int32) := (if x2 ≤ 2100 then some (x2) else some (2100))
def f_X8_toOf_99 (N : Nat) (S8 : St) (t0 : Int32) : Option (Int32) := (f_X8_toOf_110 N S8  t0)
def f_X8_toOf (N : Nat) (S8 : St) (x1 : Int32) : Option (Int32) := (if inb x1 24 = true then (if ((S8.2.2 14) (Int32.toNatClampNeg x1)) = 1 then (f_X8_toOf_110 N S8  2100) else (if ((S8.2.2 14) (Int32.toNatClampNeg x1)) = 2 then (if inb x1 24 = true then (if inb x1 24 = true then ((f_X8_lack N (S8.1 11) ((S8.2.2 19) (Int32.toNatClampNeg x1))).bind (fun r55 => (f_X8_toOf_110 N S8  ((((S8.2.2 18) (Int32.toNatClampNeg x1)) + r55) + (S8.1 12))))) else none) else none) else (if ((S8.2.2 14) (Int32.toNatClampNeg x1)) = 3 then (if inb x1 24 = true then (if inb x1 24 = true then ((f_X8_isSure N S8 ((S8.2.2 20) (Int32.toNatClampNeg x1)) ((S8.2.2 21) (Int32.toNatClampNeg x1))).bind (fun r81 => (if r81 = 0 then (f_X8_toOf_99 N S8  2100) else (if inb x1 24 = true then (f_X8_toOf_99 N S8  ((S8.2.2 19) (Int32.toNatClampNeg x1))) else none)))) else none) else none) else (if inb x1 24 = true then (f_X8_toOf_110 N S8  ((S8.2.2 19) (Int32.toNatClampNeg x1))) else none)))) else none)
def f_X8_toldOf (N : Nat) (S8 : St) (x1 : Int32) (x2 : Int32) : Option (Int32) := (if x2 = 0 then (if inb x1 24 = true then some (((S8.2.2 14) (Int32.toNatClampNeg x1))) else none) else (if x2 = 1 then (if inb x1 24 = true then some (((S8.2.2 15) (Int32.toNatClampNeg x1))) else none) else (if x2 = 2 then (if inb x1 24 = true then some (((S8.2.2 16) (Int32.toNatClampNeg x1))) else none) else (if x2 = 3 then (if inb x1 24 = true then some (((S8.2.2 17) (Int32.toNatClampNeg x1))) else none) else (if x2 = 4 then ((f_X8_fromOf N S8 x1).bind (fun r66 => some (r66))) else ((f_X8_toOf N S8 x1).bind (fun r72 => some (r72))))))))
def f_X8_told (N : Nat) (S8 : St) (x1 : Int32) (x2 : Int32) : Option (Int32) := ((f_X8_isProof N S8 x1).bind (fun r2 => (if r2 = 0 then some ((-1)) else ((f_X8_in N x2 0 5).bind (fun r11 => (if r11 = 0 then some ((-1)) else ((f_X8_toldOf N S8 x1 x2).bind (fun r20 => some (r20)))))))))
def f_X8_mark (N : Nat) (S8 : St) (x1 : Int32) (x2 : Int32) : Option (Int32 × St) := ((f_X8_isProof N S8 x1).bind (fun r2 => (if r2 = 0 then some ((-1), S8) else ((f_X8_in N x2 0 3).bind (fun r11 => (if r11 = 0 then some ((-1), S8) else (if x2 = 0 then ((f_X8_toOf N S8 x1).bind (fun r25 => ((f_X8_fromOf N S8 x1).bind (fun r30 => some (((r25 - r30) + 1), S8))))) else (if inb x1 24 = true then (if ((S8.2.2 14) (Int32.toNatClampNeg x1)) = x2 then (if x2 = 1 then (if inb x1 24 = true then some (((S8.2.2 18) (Int32.toNatClampNeg x1)), S8) else none) else (if x2 = 2 then (if inb x1 24 = true then some (((S8.2.2 19) (Int32.toNatClampNeg x1)), S8) else none) else (if inb x1 24 = true then (if inb x1 24 = true then ((f_X8_isSure N S8 ((S8.2.2 20) (Int32.toNatClampNeg x1)) ((S8.2.2 21) (Int32.toNatClampNeg x1))).bind (fun r94 => (if r94 = 0 then some (0, S8) else some (1, S8)))) else none) else none))) else ((f_X8_meets N S8 3).bind (fun r49 => some ((r49.1), (r49.2))))) else none))))))))
def f_X8_isKnown_31 (N : Nat) (S8 : St) : Option (Int32) := some (1)
def f_X8_isKnown (N : Nat) (S8 : St) (x1 : Int32) (x2 : Int32) : Option (Int32) := (if inb x1 24 = true then (if x2 < ((S8.2.2 16) (Int32.toNatClampNeg x1)) then some (0) else (if inb x1 24 = true then (if ((S8.2.2 17) (Int32.toNatClampNeg x1)) = (-9) then (f_X8_isKnown_31 N S8  ) else (if inb x1 24 = true then (if ((S8.2.2 17) (Int32.toNatClampNeg x1)) ≤ x2 then some (0) else (f_X8_isKnown_31 N S8  )) else none)) else none)) else none)
def f_X8_span_85 (N : Nat) (S8 : St) (k21 : Int32 → Int32 → Int32 → Int32 → Int32 → Option (Int32)) (x1 : Int32) (x2 : Int32) (x3 : Int32) (x4 : Int32) (x5 : Int32) : Option (Int32) := (k21 x1 x2 x3 x4 (x5 + 1))
def f_X8_span_83 (N : Nat) (S8 : St) (k21 : Int32 → Int32 → Int32 → Int32 → Int32 → Option (Int32)) (x1 : Int32) (x2 : Int32) (x3 : Int32) (x5 : Int32) (t0 : Int32) : Option (Int32) := (f_X8_span_85 N S8 k21 x1 x2 x3 t0 x5)
def f_X8_span_60 (N : Nat) (S8 : St) (k21 : Int32 → Int32 → Int32 → Int32 → Int32 → Option (Int32)) (x1 : Int32) (x2 : Int32) (x4 : Int32) (x5 : Int32) (t0 : Int32) : Option (Int32) := ((f_X8_toOf N S8 x5).bind (fun r64 => (if x4 ≤ r64 then (f_X8_span_83 N S8 k21 x1 x2 t0 x5 x4) else ((f_X8_toOf N S8 x5).bind (fun r75 => (f_X8_span_83 N S8 k21 x1 x2 t0 x5 r75))))))
def f_X8_span_21_b (N : Nat) (S8 : St) (k21 : Int32 → Int32 → Int32 → Int32 → Int32 → Option (Int32)) (x1 : Int32) (x2 : Int32) (x3 : Int32) (x4 : Int32) (x5 : Int32) : Option (Int32) := (if (S8.1 13) ≤ x5 then (if x3 ≤ x4 then (if x2 = 0 then some (x3) else some (x4)) else some ((-9))) else ((f_X8_isKnown N S8 x5 x1).bind (fun r34 => (if r34 = 0 then (f_X8_span_85 N S8 k21 x1 x2 x3 x4 x5) else ((f_X8_fromOf N S8 x5).bind (fun r43 => (if r43 ≤ x3 then (f_X8_span_60 N S8 k21 x1 x2 x4 x5 x3) else ((f_X8_fromOf N S8 x5).bind (fun r53 => (f_X8_span_60 N S8 k21 x1 x2 x4 x5 r53))))))))))
def f_X8_span_21 (N : Nat) (S8 : St) : Nat → Int32 → Int32 → Int32 → Int32 → Int32 → Option (Int32)
  | 0, _, _, _, _, _ => none
  | n + 1, y0, y1, y2, y3, y4 => f_X8_span_21_b N S8  (fun y0 y1 y2 y3 y4 => f_X8_span_21 N S8  n y0 y1 y2 y3 y4) y0 y1 y2 y3 y4
def f_X8_span (N : Nat) (S8 : St) (x1 : Int32) (x2 : Int32) : Option (Int32) := ((f_X8_isDay N x1).bind (fun r1 => (if r1 = 0 then some ((-1)) else (f_X8_span_21 N S8  N x1 x2 1000 2100 0))))
def f_X8_quarrel_75 (N : Nat) (S8 : St) (x2 : Int32) (x3 : Int32) : Option (Int32 × St) := ((f_X8_tells N S8 x3 x2).bind (fun r78 => some ((r78.1), (r78.2))))
def f_X8_quarrel_82 (N : Nat) (k11 : St → Int32 → Int32 → Option (Int32 × St)) (k23 : St → Int32 → Int32 → Int32 → Option (Int32 × St)) (S8 : St) (x1 : Int32) (x2 : Int32) (x3 : Int32) : Option (Int32 × St) := (k23 S8 x1 x2 (x3 + 1))
def f_X8_quarrel_23_b (N : Nat) (k11 : St → Int32 → Int32 → Option (Int32 × St)) (k23 : St → Int32 → Int32 → Int32 → Option (Int32 × St)) (S8 : St) (x1 : Int32) (x2 : Int32) (x3 : Int32) : Option (Int32 × St) := (if (S8.1 13) ≤ x3 then (k11 S8 x1 (x2 + 1)) else ((f_X8_isKnown N S8 x2 x1).bind (fun r34 => (if r34 = 0 then (f_X8_quarrel_82 N  k11 k23 S8 x1 x2 x3) else ((f_X8_isKnown N S8 x3 x1).bind (fun r43 => (if r43 = 0 then (f_X8_quarrel_82 N  k11 k23 S8 x1 x2 x3) else ((f_X8_toOf N S8 x2).bind (fun r51 => ((f_X8_fromOf N S8 x3).bind (fun r56 => (if r51 < r56 then (f_X8_quarrel_75 N   S8 x2 x3) else ((f_X8_toOf N S8 x3).bind (fun r64 => ((f_X8_fromOf N S8 x2).bind (fun r69 => (if r69 ≤ r64 then (f_X8_quarrel_82 N  k11 k23 S8 x1 x2 x3) else (f_X8_quarrel_75 N   S8 x2 x3))))))))))))))))))
def f_X8_quarrel_23 (N : Nat) (k11 : St → Int32 → Int32 → Option (Int32 × St)) : Nat → St → Int32 → Int32 → Int32 → Option (Int32 × St)
  | 0, _, _, _, _ => none
  | n + 1, y0, y1, y2, y3 => f_X8_quarrel_23_b N  k11 (fun y0 y1 y2 y3 => f_X8_quarrel_23 N  k11 n y0 y1 y2 y3) y0 y1 y2 y3
def f_X8_quarrel_11_b (N : Nat) (k11 : St → Int32 → Int32 → Option (Int32 × St)) (S8 : St) (x1 : Int32) (x2 : Int32) : Option (Int32 × St) := (if (S8.1 13) ≤ x2 then some ((-9), S8) else (f_X8_quarrel_23 N  k11 N S8 x1 x2 (x2 + 1)))
def f_X8_quarrel_11 (N : Nat) : Nat → St → Int32 → Int32 → Option (Int32 × St)
  | 0, _, _, _ => none
  | n + 1, y0, y1, y2 => f_X8_quarrel_11_b N   (fun y0 y1 y2 => f_X8_quarrel_11 N   n y0 y1 y2) y0 y1 y2
def f_X8_quarrel (N : Nat) (S8 : St) (x1 : Int32) : Option (Int32 × St) := ((f_X8_isDay N x1).bind (fun r1 => (if r1 = 0 then some ((-1), S8) else (f_X8_quarrel_11 N   N S8 x1 0))))
def f_X8_bestYear_83 (N : Nat) (k26 : St → Int32 → Int32 → Option (Int32 × St)) (S8 : St) (x1 : Int32) (x2 : Int32) : Option (Int32 × St) := (k26 S8 x1 (x2 + 1))
def f_X8_bestYear_141 (N : Nat) (k97 : St → Int32 → Int32 → Option (Int32 × St)) (S8 : St) (x3 : Int32) (t0 : Int32) : Option (Int32 × St) := (k97 S8 t0 (x3 + 1))
def f_X8_bestYear_97_b (N : Nat) (k97 : St → Int32 → Int32 → Option (Int32 × St)) (S8 : St) (x2 : Int32) (x3 : Int32) : Option (Int32 × St) := (if 2100 < x3 then some (x2, S8) else (if inb x3 2102 = true then (if inb (x3 - 1) 2102 = true then (if inb x3 2102 = true then (if inb x3 2102 = true then (if inb x2 2102 = true then (if ((upd (S8.2.2 22) (Int32.toNatClampNeg x3) (((S8.2.2 22) (Int32.toNatClampNeg x3)) + ((S8.2.2 22) (Int32.toNatClampNeg (x3 - 1))))) (Int32.toNatClampNeg x3)) ≤ ((upd (S8.2.2 22) (Int32.toNatClampNeg x3) (((S8.2.2 22) (Int32.toNatClampNeg x3)) + ((S8.2.2 22) (Int32.toNatClampNeg (x3 - 1))))) (Int32.toNatClampNeg x2)) then (f_X8_bestYear_141 N  k97 (sA S8 22 (upd (S8.2.2 22) (Int32.toNatClampNeg x3) (((S8.2.2 22) (Int32.toNatClampNeg x3)) + ((S8.2.2 22) (Int32.toNatClampNeg (x3 - 1)))))) x3 x2) else (f_X8_bestYear_141 N  k97 (sA S8 22 (upd (S8.2.2 22) (Int32.toNatClampNeg x3) (((S8.2.2 22) (Int32.toNatClampNeg x3)) + ((S8.2.2 22) (Int32.toNatClampNeg (x3 - 1)))))) x3 x3)) else none) else none) else none) else none) else none))
def f_X8_bestYear_97 (N : Nat) : Nat → St → Int32 → Int32 → Option (Int32 × St)
  | 0, _, _, _ => none
  | n + 1, y0, y1, y2 => f_X8_bestYear_97_b N   (fun y0 y1 y2 => f_X8_bestYear_97 N   n y0 y1 y2) y0 y1 y2
def f_X8_bestYear_26_b (N : Nat) (k26 : St → Int32 → Int32 → Option (Int32 × St)) (S8 : St) (x1 : Int32) (x2 : Int32) : Option (Int32 × St) := (if (S8.1 13) ≤ x2 then (f_X8_bestYear_97 N   N S8 1000 1001) else ((f_X8_isKnown N S8 x2 x1).bind (fun r37 => (if r37 = 0 then (f_X8_bestYear_83 N  k26 S8 x1 x2) else ((f_X8_fromOf N S8 x2).bind (fun r49 => (if inb r49 2102 = true then (if inb x2 24 = true then (if inb r49 2102 = true then ((f_X8_toOf N (sA S8 22 (upd (S8.2.2 22) (Int32.toNatClampNeg r49) (((S8.2.2 22) (Int32.toNatClampNeg r49)) + ((S8.2.2 15) (Int32.toNatClampNeg x2))))) x2).bind (fun r68 => (if inb (r68 + 1) 2102 = true then (if inb x2 24 = true then (if inb (r68 + 1) 2102 = true then (f_X8_bestYear_83 N  k26 (sA (sA S8 22 (upd (S8.2.2 22) (Int32.toNatClampNeg r49) (((S8.2.2 22) (Int32.toNatClampNeg r49)) + ((S8.2.2 15) (Int32.toNatClampNeg x2))))) 22 (upd (upd (S8.2.2 22) (Int32.toNatClampNeg r49) (((S8.2.2 22) (Int32.toNatClampNeg r49)) + ((S8.2.2 15) (Int32.toNatClampNeg x2)))) (Int32.toNatClampNeg (r68 + 1)) (((upd (S8.2.2 22) (Int32.toNatClampNeg r49) (((S8.2.2 22) (Int32.toNatClampNeg r49)) + ((S8.2.2 15) (Int32.toNatClampNeg x2)))) (Int32.toNatClampNeg (r68 + 1))) - ((S8.2.2 15) (Int32.toNatClampNeg x2))))) x1 x2) else none) else none) else none))) else none) else none) else none)))))))
def f_X8_bestYear_26 (N : Nat) : Nat → St → Int32 → Int32 → Option (Int32 × St)
  | 0, _, _, _ => none
  | n + 1, y0, y1, y2 => f_X8_bestYear_26_b N   (fun y0 y1 y2 => f_X8_bestYear_26 N   n y0 y1 y2) y0 y1 y2
def f_X8_bestYear_4_b (N : Nat) (k4 : St → Int32 → Int32 → Option (Int32 × St)) (S8 : St) (x1 : Int32) (x2 : Int32) : Option (Int32 × St) := (if 2101 < x2 then (f_X8_bestYear_26 N   N S8 x1 0) else (if inb x2 2102 = true then (k4 (sA S8 22 (upd (S8.2.2 22) (Int32.toNatClampNeg x2) 0)) x1 (x2 + 1)) else none))
def f_X8_bestYear_4 (N : Nat) : Nat → St → Int32 → Int32 → Option (Int32 × St)
  | 0, _, _, _ => none
  | n + 1, y0, y1, y2 => f_X8_bestYear_4_b N   (fun y0 y1 y2 => f_X8_bestYear_4 N   n y0 y1 y2) y0 y1 y2
def f_X8_bestYear (N : Nat) (S8 : St) (x1 : Int32) : Option (Int32 × St) := (f_X8_bestYear_4 N   N S8 x1 1000)
def f_X8_leftOut_80 (N : Nat) (k23 : St → Int32 → Int32 → Int32 → Int32 → Int32 → Option (Int32 × St)) (S8 : St) (x1 : Int32) (x2 : Int32) (x3 : Int32) (x4 : Int32) (x5 : Int32) : Option (Int32 × St) := (k23 S8 x1 x2 x3 x4 (x5 + 1))
def f_X8_leftOut_23_b (N : Nat) (k23 : St → Int32 → Int32 → Int32 → Int32 → Int32 → Option (Int32 × St)) (S8 : St) (x1 : Int32) (x2 : Int32) (x3 : Int32) (x4 : Int32) (x5 : Int32) : Option (Int32 × St) := (if (S8.1 13) ≤ x5 then ((f_X8_tells N S8 x4 x3).bind (fun r90 => some ((r90.1), (r90.2)))) else ((f_X8_isKnown N S8 x5 x1).bind (fun r36 => (if r36 = 0 then (f_X8_leftOut_80 N  k23 S8 x1 x2 x3 x4 x5) else ((f_X8_fromOf N S8 x5).bind (fun r46 => ((f_X8_toOf N S8 x5).bind (fun r52 => ((f_X8_in N x2 r46 r52).bind (fun r55 => (if r55 = 0 then (if inb x5 24 = true then (f_X8_leftOut_80 N  k23 S8 x1 x2 (x3 + ((S8.2.2 15) (Int32.toNatClampNeg x5))) (x4 ||| (1 <<< (x5 &&& 31))) x5) else none) else (f_X8_leftOut_80 N  k23 S8 x1 x2 x3 x4 x5))))))))))))
def f_X8_leftOut_23 (N : Nat) : Nat → St → Int32 → Int32 → Int32 → Int32 → Int32 → Option (Int32 × St)
  | 0, _, _, _, _, _, _ => none
  | n + 1, y0, y1, y2, y3, y4, y5 => f_X8_leftOut_23_b N   (fun y0 y1 y2 y3 y4 y5 => f_X8_leftOut_23 N   n y0 y1 y2 y3 y4 y5) y0 y1 y2 y3 y4 y5
def f_X8_leftOut (N : Nat) (S8 : St) (x1 : Int32) : Option (Int32 × St) := ((f_X8_isDay N x1).bind (fun r1 => (if r1 = 0 then some ((-1), S8) else ((f_X8_bestYear N S8 x1).bind (fun r11 => (f_X8_leftOut_23 N   N (r11.2) x1 (r11.1) 0 0 0))))))
def f_X8_heldYear (N : Nat) (S8 : St) (x1 : Int32) : Option (Int32 × St) := ((f_X8_isDay N x1).bind (fun r1 => (if r1 = 0 then some ((-1), S8) else ((f_X8_bestYear N S8 x1).bind (fun r9 => some ((r9.1), (r9.2)))))))
def f_X8_isHand (N : Nat) (x0 : Int32) : Option (Int32) := ((f_X8_in N x0 0 3).bind (fun r3 => (if z01 r3 = true then some (r3) else none)))
def f_X8_isTest (N : Nat) (S8 : St) (x1 : Int32) : Option (Int32) := ((f_X8_in N x1 0 ((S8.1 24) - 1)).bind (fun r8 => (if z01 r8 = true then some (r8) else none)))
def f_X8_hand (N : Nat) (S8 : St) (x1 : Int32) (x2 : Int32) : Option (Int32 × St) := ((f_X8_isHand N x1).bind (fun r1 => (if r1 = 0 then some ((-1), S8) else ((f_X8_in N x2 0 99).bind (fun r11 => (if r11 = 0 then some ((-1), S8) else (if inb x1 4 = true then (if inb x1 4 = true then some (((S8.2.2 23) (Int32.toNatClampNeg x1)), (sA S8 23 (upd (S8.2.2 23) (Int32.toNatClampNeg x1) x2))) else none) else none)))))))
def f_X8_test_104_b (N : Nat) (k104 : St → Int32 → Option (Int32 × St)) (S8 : St) (x4 : Int32) : Option (Int32 × St) := (if 4 ≤ x4 then some ((((S8.1 24) + 1) - 1), (sI S8 24 ((S8.1 24) + 1))) else (if inb ((4 * (S8.1 24)) + x4) 40 = true then (k104 (sA S8 28 (upd (S8.2.2 28) (Int32.toNatClampNeg ((4 * (S8.1 24)) + x4)) 8)) (x4 + 1)) else none))
def f_X8_test_104 (N : Nat) : Nat → St → Int32 → Option (Int32 × St)
  | 0, _, _ => none
  | n + 1, y0, y1 => f_X8_test_104_b N   (fun y0 y1 => f_X8_test_104 N   n y0 y1) y0 y1
def f_X8_test_38 (N : Nat) (S8 : St) (x1 : Int32) (x2 : Int32) (x3 : Int32) : Option (Int32 × St) := (if (S8.1 24) = 10 then some ((-2), S8) else (if inb (S8.1 24) 10 = true then (if inb (S8.1 24) 10 = true then (if inb (S8.1 24) 10 = true then (if inb (S8.1 24) 10 = true then (if inb (S8.1 24) 10 = true then (f_X8_test_104 N   N (sA (sA (sA (sA (sA S8 25 (upd (S8.2.2 25) (Int32.toNatClampNeg (S8.1 24)) x1)) 26 (upd (S8.2.2 26) (Int32.toNatClampNeg (S8.1 24)) x2)) 27 (upd (S8.2.2 27) (Int32.toNatClampNeg (S8.1 24)) x3)) 29 (upd (S8.2.2 29) (Int32.toNatClampNeg (S8.1 24)) (-9))) 30 (upd (S8.2.2 30) (Int32.toNatClampNeg (S8.1 24)) (vp_nar .boolean 0))) 0) else none) else none) else none) else none) else none))
def f_X8_test (N : Nat) (S8 : St) (x1 : Int32) (x2 : Int32) (x3 : Int32) : Option (Int32 × St) := ((f_X8_in N x1 1 1000).bind (fun r5 => (if r5 = 0 then some ((-1), S8) else ((f_X8_in N x2 0 9).bind (fun r15 => (if r15 = 0 then some ((-1), S8) else (if x3 = (-9) then (f_X8_test_38 N   S8 x1 x2 x3) else ((f_X8_in N x3 0 3).bind (fun r30 => (if r30 = 0 then some ((-1), S8) else (f_X8_test_38 N   S8 x1 x2 x3)))))))))))
def f_X8_often (N : Nat) (S8 : St) (x1 : Int32) (x2 : Int32) (x3 : Int32) : Option (Int32 × St) := ((f_X8_isTest N S8 x1).bind (fun r2 => (if r2 = 0 then some ((-1), S8) else ((f_X8_isHand N x2).bind (fun r9 => (if r9 = 0 then some ((-1), S8) else ((f_X8_in N x3 0 16).bind (fun r19 => (if r19 = 0 then some ((-1), S8) else (if inb x1 10 = true then (if ((S8.2.2 29) (Int32.toNatClampNeg x1)) = (-9) then (if inb ((4 * x1) + x2) 40 = true then (if inb ((4 * x1) + x2) 40 = true then some (((S8.2.2 28) (Int32.toNatClampNeg ((4 * x1) + x2))), (sA S8 28 (upd (S8.2.2 28) (Int32.toNatClampNeg ((4 * x1) + x2)) x3))) else none) else none) else some ((-4), S8)) else none))))))))))
def f_X8_isGroupDone_58 (N : Nat) (S8 : St) (k4 : Int32 → Int32 → Int32 → Option (Int32)) (x1 : Int32) (x3 : Int32) (t0 : Int32) : Option (Int32) := (k4 x1 t0 (x3 + 1))
def f_X8_isGroupDone_53 (N : Nat) (S8 : St) (k4 : Int32 → Int32 → Int32 → Option (Int32)) (x1 : Int32) (x3 : Int32) : Option (Int32) := (f_X8_isGroupDone_58 N S8 k4 x1 x3 1)
def f_X8_isGroupDone_57 (N : Nat) (S8 : St) (k4 : Int32 → Int32 → Int32 → Option (Int32)) (x1 : Int32) (x3 : Int32) : Option (Int32) := (f_X8_isGroupDone_58 N S8 k4 x1 x3 0)
def f_X8_isGroupDone_4_b (N : Nat) (S8 : St) (k4 : Int32 → Int32 → Int32 → Option (Int32)) (x1 : Int32) (x2 : Int32) (x3 : Int32) : Option (Int32) := (if (S8.1 24) ≤ x3 then (if z01 x2 = true then some (x2) else none) else (if x2 = 0 then (if inb x1 10 = true then (if ((S8.2.2 27) (Int32.toNatClampNeg x1)) = (-9) then (f_X8_isGroupDone_57 N S8 k4 x1 x3) else (if inb x3 10 = true then (if inb x1 10 = true then (if ((S8.2.2 27) (Int32.toNatClampNeg x3)) = ((S8.2.2 27) (Int32.toNatClampNeg x1)) then (if inb x3 10 = true then (if ((S8.2.2 29) (Int32.toNatClampNeg x3)) = (-9) then (f_X8_isGroupDone_57 N S8 k4 x1 x3) else (f_X8_isGroupDone_53 N S8 k4 x1 x3)) else none) else (f_X8_isGroupDone_57 N S8 k4 x1 x3)) else none) else none)) else none) else (f_X8_isGroupDone_53 N S8 k4 x1 x3)))
def f_X8_isGroupDone_4 (N : Nat) (S8 : St) : Nat → Int32 → Int32 → Int32 → Option (Int32)
  | 0, _, _, _ => none
  | n + 1, y0, y1, y2 => f_X8_isGroupDone_4_b N S8  (fun y0 y1 y2 => f_X8_isGroupDone_4 N S8  n y0 y1 y2) y0 y1 y2
def f_X8_isGroupDone (N : Nat) (S8 : St) (x1 : Int32) : Option (Int32) := (f_X8_isGroupDone_4 N S8  N x1 0 0)
def f_X8_done_57 (N : Nat) (S8 : St) (x1 : Int32) (t0 : Int32) (t1 : Int32) : Option (Int32 × St) := (if inb t1 10 = true then (if inb x1 10 = true then (if ((S8.2.2 30) (Int32.toNatClampNeg x1)) = 0 then some (0, (sA S8 29 (upd (S8.2.2 29) (Int32.toNatClampNeg t1) t0))) else some (1, (sA S8 29 (upd (S8.2.2 29) (Int32.toNatClampNeg t1) t0)))) else none) else none)
def f_X8_done_42 (N : Nat) (S8 : St) (x1 : Int32) (x2 : Int32) (t0 : Int32) (t1 : Int32) : Option (Int32 × St) := (if inb t1 10 = true then (if x2 = 0 then (f_X8_done_57 N   (sA S8 30 (upd (S8.2.2 30) (Int32.toNatClampNeg t1) (vp_nar .boolean t0))) x1 0 x1) else (f_X8_done_57 N   (sA S8 30 (upd (S8.2.2 30) (Int32.toNatClampNeg t1) (vp_nar .boolean t0))) x1 1 x1)) else none)
def f_X8_done (N : Nat) (S8 : St) (x1 : Int32) (x2 : Int32) : Option (Int32 × St) := ((f_X8_isTest N S8 x1).bind (fun r2 => (if r2 = 0 then some ((-1), S8) else (if inb x1 10 = true then (if ((S8.2.2 29) (Int32.toNatClampNeg x1)) = (-9) then ((f_X8_isGroupDone N S8 x1).bind (fun r31 => (if r31 = 0 then (f_X8_done_42 N   S8 x1 x2 1 x1) else (f_X8_done_42 N   S8 x1 x2 0 x1)))) else some ((-4), S8)) else none))))
def f_X8_scoreOf_71 (N : Nat) (S8 : St) (k11 : Int32 → Int64 → Int32 → Option (Int64)) (x1 : Int32) (x4 : Int32) (t0 : Int64) (t1 : Int64) : Option (Int64) := (k11 x1 (t1 * t0) (x4 + 1))
def f_X8_scoreOf_11_b (N : Nat) (S8 : St) (k11 : Int32 → Int64 → Int32 → Option (Int64)) (x1 : Int32) (x2 : Int64) (x4 : Int32) : Option (Int64) := (if (S8.1 24) ≤ x4 then some (x2) else (if inb ((4 * x4) + x1) 40 = true then (if inb x4 10 = true then (if ((S8.2.2 30) (Int32.toNatClampNeg x4)) = 0 then (f_X8_scoreOf_71 N S8 k11 x1 x4 1 x2) else (if inb x4 10 = true then (if ((S8.2.2 29) (Int32.toNatClampNeg x4)) = 1 then (f_X8_scoreOf_71 N S8 k11 x1 x4 (Int32.toInt64 ((S8.2.2 28) (Int32.toNatClampNeg ((4 * x4) + x1)))) x2) else (f_X8_scoreOf_71 N S8 k11 x1 x4 (Int32.toInt64 (16 - ((S8.2.2 28) (Int32.toNatClampNeg ((4 * x4) + x1))))) x2)) else none)) else none) else none))
def f_X8_scoreOf_11 (N : Nat) (S8 : St) : Nat → Int32 → Int64 → Int32 → Option (Int64)
  | 0, _, _, _ => none
  | n + 1, y0, y1, y2 => f_X8_scoreOf_11_b N S8  (fun y0 y1 y2 => f_X8_scoreOf_11 N S8  n y0 y1 y2) y0 y1 y2
def f_X8_scoreOf (N : Nat) (S8 : St) (x1 : Int32) : Option (Int64) := (if inb x1 4 = true then (f_X8_scoreOf_11 N S8  N x1 (Int32.toInt64 ((S8.2.2 23) (Int32.toNatClampNeg x1))) 0) else none)
def f_X8_allScores (N : Nat) (S8 : St) : Option (Int64) := ((f_X8_scoreOf N S8 0).bind (fun r2 => ((f_X8_scoreOf N S8 1).bind (fun r7 => ((f_X8_scoreOf N S8 2).bind (fun r13 => ((f_X8_scoreOf N S8 3).bind (fun r19 => some ((((r2 + r7) + r13) + r19))))))))))
def f_X8_chance (N : Nat) (S8 : St) (x1 : Int32) : Option (Int32 × St) := ((f_X8_isHand N x1).bind (fun r1 => (if r1 = 0 then some ((-1), S8) else ((f_X8_allScores N S8).bind (fun r10 => (if (lg_cmp r10 0) = 0 then ((f_X8_meets N S8 4).bind (fun r20 => some ((r20.1), (r20.2)))) else ((f_X8_scoreOf N S8 x1).bind (fun r29 => ((f_X8_allScores N S8).bind (fun r33 => ((f_X8_fraction N S8 r29 r33 1).bind (fun r37 => some ((r37.1), (r37.2))))))))))))))
def f_X8_likely_43 (N : Nat) (k19 : St → Int32 → Int32 → Option (Int32 × St)) (S8 : St) (x2 : Int32) (t0 : Int32) : Option (Int32 × St) := (k19 S8 t0 (x2 + 1))
def f_X8_likely_19_b (N : Nat) (k19 : St → Int32 → Int32 → Option (Int32 × St)) (S8 : St) (x1 : Int32) (x2 : Int32) : Option (Int32 × St) := (if 4 ≤ x2 then some (x1, S8) else ((f_X8_scoreOf N S8 x2).bind (fun r26 => ((f_X8_scoreOf N S8 x1).bind (fun r31 => (if (lg_cmp r26 r31) ≤ 0 then (f_X8_likely_43 N  k19 S8 x2 x1) else (f_X8_likely_43 N  k19 S8 x2 x2)))))))
def f_X8_likely_19 (N : Nat) : Nat → St → Int32 → Int32 → Option (Int32 × St)
  | 0, _, _, _ => none
  | n + 1, y0, y1, y2 => f_X8_likely_19_b N   (fun y0 y1 y2 => f_X8_likely_19 N   n y0 y1 y2) y0 y1 y2
def f_X8_likely (N : Nat) (S8 : St) : Option (Int32 × St) := ((f_X8_allScores N S8).bind (fun r1 => (if (lg_cmp r1 0) = 0 then ((f_X8_meets N S8 4).bind (fun r11 => some ((r11.1), (r11.2)))) else (f_X8_likely_19 N   N S8 0 1))))
def f_X8_gainOf_106 (N : Nat) (S8 : St) (k11 : Int32 → Int64 → Int64 → Int64 → Int32 → Option (Int64)) (x1 : Int32) (x2 : Int64) (x4 : Int64) (x8 : Int32) (t0 : Int64) : Option (Int64) := (k11 x1 x2 x4 t0 (x8 + 1))
def f_X8_gainOf_89 (N : Nat) (S8 : St) (k11 : Int32 → Int64 → Int64 → Int64 → Int32 → Option (Int64)) (x1 : Int32) (x2 : Int64) (x6 : Int64) (x8 : Int32) (x9 : Int64) (t0 : Int64) : Option (Int64) := (if (lg_cmp x9 x6) ≤ 0 then (f_X8_gainOf_106 N S8 k11 x1 x2 t0 x8 x6) else (f_X8_gainOf_106 N S8 k11 x1 x2 t0 x8 x9))
def f_X8_gainOf_59 (N : Nat) (S8 : St) (k11 : Int32 → Int64 → Int64 → Int64 → Int32 → Option (Int64)) (x1 : Int32) (x4 : Int64) (x6 : Int64) (x8 : Int32) (x9 : Int64) (x11 : Int32) (t0 : Int64) : Option (Int64) := (if (lg_cmp (x9 * (Int32.toInt64 (16 - x11))) x4) ≤ 0 then (f_X8_gainOf_89 N S8 k11 x1 t0 x6 x8 x9 x4) else (f_X8_gainOf_89 N S8 k11 x1 t0 x6 x8 x9 (x9 * (Int32.toInt64 (16 - x11)))))
def f_X8_gainOf_11_b (N : Nat) (S8 : St) (k11 : Int32 → Int64 → Int64 → Int64 → Int32 → Option (Int64)) (x1 : Int32) (x2 : Int64) (x4 : Int64) (x6 : Int64) (x8 : Int32) : Option (Int64) := (if 4 ≤ x8 then some (((x2 + x4) - (16 * x6))) else ((f_X8_scoreOf N S8 x8).bind (fun r20 => (if inb ((4 * x1) + x8) 40 = true then (if (lg_cmp (r20 * (Int32.toInt64 ((S8.2.2 28) (Int32.toNatClampNeg ((4 * x1) + x8))))) x2) ≤ 0 then (f_X8_gainOf_59 N S8 k11 x1 x4 x6 x8 r20 ((S8.2.2 28) (Int32.toNatClampNeg ((4 * x1) + x8))) x2) else (f_X8_gainOf_59 N S8 k11 x1 x4 x6 x8 r20 ((S8.2.2 28) (Int32.toNatClampNeg ((4 * x1) + x8))) (r20 * (Int32.toInt64 ((S8.2.2 28) (Int32.toNatClampNeg ((4 * x1) + x8))))))) else none))))
def f_X8_gainOf_11 (N : Nat) (S8 : St) : Nat → Int32 → Int64 → Int64 → Int64 → Int32 → Option (Int64)
  | 0, _, _, _, _, _ => none
  | n + 1, y0, y1, y2, y3, y4 => f_X8_gainOf_11_b N S8  (fun y0 y1 y2 y3 y4 => f_X8_gainOf_11 N S8  n y0 y1 y2 y3 y4) y0 y1 y2 y3 y4
def f_X8_gainOf (N : Nat) (S8 : St) (x1 : Int32) : Option (Int64) := (f_X8_gainOf_11 N S8  N x1 0 0 0 0)
def f_X8_isOpen (N : Nat) (S8 : St) (x1 : Int32) : Option (Int32) := (if inb x1 10 = true then (if ((S8.2.2 29) (Int32.toNatClampNeg x1)) = (-9) then ((f_X8_isGroupDone N S8 x1).bind (fun r13 => (if r13 = 0 then some (1) else some (0)))) else some (0)) else none)
def f_X8_gain (N : Nat) (S8 : St) (x1 : Int32) : Option (Int32 × St) := ((f_X8_isTest N S8 x1).bind (fun r2 => (if r2 = 0 then some ((-1), S8) else ((f_X8_isOpen N S8 x1).bind (fun r12 => (if r12 = 0 then some ((-4), S8) else ((f_X8_allScores N S8).bind (fun r22 => (if (lg_cmp r22 0) = 0 then ((f_X8_meets N S8 4).bind (fun r32 => some ((r32.1), (r32.2)))) else ((f_X8_gainOf N S8 x1).bind (fun r41 => ((f_X8_allScores N S8).bind (fun r48 => ((f_X8_fraction N S8 r41 (16 * r48) 1).bind (fun r53 => some ((r53.1), (r53.2)))))))))))))))))
def f_X8_next_142 (N : Nat) (k31 : St → Int32 → Int32 → Int32 → Int32 → Option (Int32 × St)) (S8 : St) (x1 : Int32) (x2 : Int32) (x3 : Int32) (x4 : Int32) : Option (Int32 × St) := (k31 S8 x1 x2 x3 (x4 + 1))
def f_X8_next_141 (N : Nat) (k31 : St → Int32 → Int32 → Int32 → Int32 → Option (Int32 × St)) (S8 : St) (x1 : Int32) (x2 : Int32) (x4 : Int32) (t0 : Int32) : Option (Int32 × St) := (f_X8_next_142 N  k31 S8 x1 x2 t0 x4)
def f_X8_next_128 (N : Nat) (k31 : St → Int32 → Int32 → Int32 → Int32 → Option (Int32 × St)) (S8 : St) (x1 : Int32) (x2 : Int32) (x3 : Int32) (x4 : Int32) (t0 : Int32) : Option (Int32 × St) := (if t0 = 0 then (f_X8_next_141 N  k31 S8 x1 x2 x4 x3) else (f_X8_next_141 N  k31 S8 x1 x2 x4 x4))
def f_X8_next_123 (N : Nat) (k31 : St → Int32 → Int32 → Int32 → Int32 → Option (Int32 × St)) (S8 : St) (x1 : Int32) (x2 : Int32) (x3 : Int32) (x4 : Int32) : Option (Int32 × St) := (f_X8_next_128 N  k31 S8 x1 x2 x3 x4 1)
def f_X8_next_127 (N : Nat) (k31 : St → Int32 → Int32 → Int32 → Int32 → Option (Int32 × St)) (S8 : St) (x1 : Int32) (x2 : Int32) (x3 : Int32) (x4 : Int32) : Option (Int32 × St) := (f_X8_next_128 N  k31 S8 x1 x2 x3 x4 0)
def f_X8_next_31_b (N : Nat) (k31 : St → Int32 → Int32 → Int32 → Int32 → Option (Int32 × St)) (S8 : St) (x1 : Int32) (x2 : Int32) (x3 : Int32) (x4 : Int32) : Option (Int32 × St) := (if (S8.1 24) ≤ x4 then some (x3, S8) else ((f_X8_isOpen N S8 x4).bind (fun r43 => (if r43 = 0 then (f_X8_next_142 N  k31 S8 x1 x2 x3 x4) else (if inb x4 10 = true then (if x1 < ((S8.2.2 25) (Int32.toNatClampNeg x4)) then (f_X8_next_142 N  k31 S8 x1 x2 x3 x4) else (if inb x4 10 = true then (if x2 < ((S8.2.2 26) (Int32.toNatClampNeg x4)) then (f_X8_next_142 N  k31 S8 x1 x2 x3 x4) else (if x3 = (-9) then (f_X8_next_123 N  k31 S8 x1 x2 x3 x4) else ((f_X8_gainOf N S8 x4).bind (fun r80 => ((f_X8_gainOf N S8 x3).bind (fun r85 => (if 0 < (lg_cmp r80 r85) then (f_X8_next_123 N  k31 S8 x1 x2 x3 x4) else ((f_X8_gainOf N S8 x4).bind (fun r95 => ((f_X8_gainOf N S8 x3).bind (fun r100 => (if (lg_cmp r95 r100) = 0 then (if inb x4 10 = true then (if inb x3 10 = true then (if ((S8.2.2 25) (Int32.toNatClampNeg x3)) ≤ ((S8.2.2 25) (Int32.toNatClampNeg x4)) then (f_X8_next_127 N  k31 S8 x1 x2 x3 x4) else (f_X8_next_123 N  k31 S8 x1 x2 x3 x4)) else none) else none) else (f_X8_next_127 N  k31 S8 x1 x2 x3 x4))))))))))))) else none)) else none)))))
def f_X8_next_31 (N : Nat) : Nat → St → Int32 → Int32 → Int32 → Int32 → Option (Int32 × St)
  | 0, _, _, _, _, _ => none
  | n + 1, y0, y1, y2, y3, y4 => f_X8_next_31_b N   (fun y0 y1 y2 y3 y4 => f_X8_next_31 N   n y0 y1 y2 y3 y4) y0 y1 y2 y3 y4
def f_X8_next (N : Nat) (S8 : St) (x1 : Int32) (x2 : Int32) : Option (Int32 × St) := (if x1 < 0 then some ((-1), S8) else (if 0 ≤ x2 then ((f_X8_allScores N S8).bind (fun r11 => (if (lg_cmp r11 0) = 0 then ((f_X8_meets N S8 4).bind (fun r21 => some ((r21.1), (r21.2)))) else (f_X8_next_31 N   N S8 x1 x2 (-9) 0)))) else some ((-1), S8)))
def f_X8_owner (N : Nat) (S8 : St) (x1 : Int32) (x2 : Int32) : Option (Int32 × St) := ((f_X8_isYear N x1).bind (fun r1 => (if r1 = 0 then some ((-1), S8) else ((f_X8_in N x2 x1 2100).bind (fun r12 => (if r12 = 0 then some ((-1), S8) else (if (S8.1 31) = 20 then some ((-2), S8) else (if inb (S8.1 31) 20 = true then (if inb (S8.1 31) 20 = true then some (((S8.1 31) + 1), (sI (sA (sA S8 32 (upd (S8.2.2 32) (Int32.toNatClampNeg (S8.1 31)) x1)) 33 (upd (S8.2.2 33) (Int32.toNatClampNeg (S8.1 31)) x2)) 31 ((S8.1 31) + 1))) else none) else none))))))))
def f_X8_gaps_84 (N : Nat) (k31 : St → Int32 → Int32 → Int32 → Int32 → Int32 → Option (Int32 × St)) (k43 : St → Int32 → Int32 → Int32 → Int32 → Int32 → Int32 → Int32 → Option (Int32 × St)) (S8 : St) (x2 : Int32) (x3 : Int32) (x4 : Int32) (x5 : Int32) (x6 : Int32) (x8 : Int32) (t0 : Int32) : Option (Int32 × St) := (k43 S8 x2 x3 x4 x5 x6 t0 (x8 + 1))
def f_X8_gaps_79 (N : Nat) (k31 : St → Int32 → Int32 → Int32 → Int32 → Int32 → Option (Int32 × St)) (k43 : St → Int32 → Int32 → Int32 → Int32 → Int32 → Int32 → Int32 → Option (Int32 × St)) (S8 : St) (x2 : Int32) (x3 : Int32) (x4 : Int32) (x5 : Int32) (x6 : Int32) (x8 : Int32) : Option (Int32 × St) := (f_X8_gaps_84 N  k31 k43 S8 x2 x3 x4 x5 x6 x8 1)
def f_X8_gaps_134 (N : Nat) (k31 : St → Int32 → Int32 → Int32 → Int32 → Int32 → Option (Int32 × St)) (S8 : St) (x2 : Int32) (x3 : Int32) (x4 : Int32) (x6 : Int32) (t0 : Int32) : Option (Int32 × St) := (k31 S8 x2 x3 x4 t0 (x6 + 1))
def f_X8_gaps_118 (N : Nat) (k31 : St → Int32 → Int32 → Int32 → Int32 → Int32 → Option (Int32 × St)) (S8 : St) (x2 : Int32) (x4 : Int32) (x5 : Int32) (x6 : Int32) (t0 : Int32) (t1 : Int32) : Option (Int32 × St) := (if x4 ≤ x5 then (f_X8_gaps_134 N  k31 S8 x2 (t1 + t0) x4 x6 x5) else (f_X8_gaps_134 N  k31 S8 x2 (t1 + t0) x4 x6 x4))
def f_X8_gaps_105 (N : Nat) (k31 : St → Int32 → Int32 → Int32 → Int32 → Int32 → Option (Int32 × St)) (S8 : St) (x2 : Int32) (x3 : Int32) (x5 : Int32) (x6 : Int32) (x7 : Int32) (t0 : Int32) : Option (Int32 × St) := (if x7 = 0 then (f_X8_gaps_118 N  k31 S8 x2 t0 x5 x6 1 x3) else (f_X8_gaps_118 N  k31 S8 x2 t0 x5 x6 0 x3))
def f_X8_gaps_43_b (N : Nat) (k31 : St → Int32 → Int32 → Int32 → Int32 → Int32 → Option (Int32 × St)) (k43 : St → Int32 → Int32 → Int32 → Int32 → Int32 → Int32 → Int32 → Option (Int32 × St)) (S8 : St) (x2 : Int32) (x3 : Int32) (x4 : Int32) (x5 : Int32) (x6 : Int32) (x7 : Int32) (x8 : Int32) : Option (Int32 × St) := (if (S8.1 31) ≤ x8 then (if x7 = 0 then (f_X8_gaps_105 N  k31 S8 x2 x3 x5 x6 x7 (x4 + 1)) else (f_X8_gaps_105 N  k31 S8 x2 x3 x5 x6 x7 0)) else (if x7 = 0 then (if inb x8 20 = true then (if inb x8 20 = true then ((f_X8_in N x6 ((S8.2.2 32) (Int32.toNatClampNeg x8)) ((S8.2.2 33) (Int32.toNatClampNeg x8))).bind (fun r73 => (if r73 = 0 then (f_X8_gaps_84 N  k31 k43 S8 x2 x3 x4 x5 x6 x8 0) else (f_X8_gaps_79 N  k31 k43 S8 x2 x3 x4 x5 x6 x8)))) else none) else none) else (f_X8_gaps_79 N  k31 k43 S8 x2 x3 x4 x5 x6 x8)))
def f_X8_gaps_43 (N : Nat) (k31 : St → Int32 → Int32 → Int32 → Int32 → Int32 → Option (Int32 × St)) : Nat → St → Int32 → Int32 → Int32 → Int32 → Int32 → Int32 → Int32 → Option (Int32 × St)
  | 0, _, _, _, _, _, _, _, _ => none
  | n + 1, y0, y1, y2, y3, y4, y5, y6, y7 => f_X8_gaps_43_b N  k31 (fun y0 y1 y2 y3 y4 y5 y6 y7 => f_X8_gaps_43 N  k31 n y0 y1 y2 y3 y4 y5 y6 y7) y0 y1 y2 y3 y4 y5 y6 y7
def f_X8_gaps_31_b (N : Nat) (k31 : St → Int32 → Int32 → Int32 → Int32 → Int32 → Option (Int32 × St)) (S8 : St) (x2 : Int32) (x3 : Int32) (x4 : Int32) (x5 : Int32) (x6 : Int32) : Option (Int32 × St) := (if x2 < x6 then ((f_X8_tells N S8 x5 x3).bind (fun r146 => some ((r146.1), (r146.2)))) else (f_X8_gaps_43 N  k31 N S8 x2 x3 x4 x5 x6 0 0))
def f_X8_gaps_31 (N : Nat) : Nat → St → Int32 → Int32 → Int32 → Int32 → Int32 → Option (Int32 × St)
  | 0, _, _, _, _, _, _ => none
  | n + 1, y0, y1, y2, y3, y4, y5 => f_X8_gaps_31_b N   (fun y0 y1 y2 y3 y4 y5 => f_X8_gaps_31 N   n y0 y1 y2 y3 y4 y5) y0 y1 y2 y3 y4 y5
def f_X8_gaps (N : Nat) (S8 : St) (x1 : Int32) (x2 : Int32) : Option (Int32 × St) := ((f_X8_isYear N x1).bind (fun r1 => (if r1 = 0 then some ((-1), S8) else ((f_X8_in N x2 x1 2100).bind (fun r12 => (if r12 = 0 then some ((-1), S8) else (f_X8_gaps_31 N   N S8 x2 0 0 0 x1)))))))
def f_X8_opinion (N : Nat) (S8 : St) (x1 : Int32) (x2 : Int32) (x3 : Int32) (x4 : Int32) : Option (Int32 × St) := ((f_X8_in N x1 0 9).bind (fun r4 => (if r4 = 0 then some ((-1), S8) else ((f_X8_isHand N x2).bind (fun r11 => (if r11 = 0 then some ((-1), S8) else ((f_X8_in N x3 0 100).bind (fun r21 => (if r21 = 0 then some ((-1), S8) else (if (S8.1 34) = 30 then some ((-2), S8) else (if inb (S8.1 34) 30 = true then (if inb (S8.1 34) 30 = true then (if inb (S8.1 34) 30 = true then (if inb (S8.1 34) 30 = true then some (((S8.1 34) + 1), (sI (sA (sA (sA (sA S8 35 (upd (S8.2.2 35) (Int32.toNatClampNeg (S8.1 34)) x1)) 36 (upd (S8.2.2 36) (Int32.toNatClampNeg (S8.1 34)) x2)) 37 (upd (S8.2.2 37) (Int32.toNatClampNeg (S8.1 34)) x3)) 38 (upd (S8.2.2 38) (Int32.toNatClampNeg (S8.1 34)) (vp_nar .boolean x4))) 34 ((S8.1 34) + 1))) else none) else none) else none) else none)))))))))))
def f_X8_mean_86 (N : Nat) (k17 : St → Int32 → Int32 → Int32 → Int32 → Int32 → Option (Int32 × St)) (S8 : St) (x1 : Int32) (x2 : Int32) (x3 : Int32) (x5 : Int32) (t0 : Int32) (t1 : Int32) : Option (Int32 × St) := (k17 S8 x1 x2 x3 (t1 + t0) (x5 + 1))
def f_X8_mean_72 (N : Nat) (k17 : St → Int32 → Int32 → Int32 → Int32 → Int32 → Option (Int32 × St)) (S8 : St) (x1 : Int32) (x2 : Int32) (x4 : Int32) (x5 : Int32) (x6 : Int32) (t0 : Int32) (t1 : Int32) : Option (Int32 × St) := (if x6 = 0 then (f_X8_mean_86 N  k17 S8 x1 x2 (t1 + t0) x5 0 x4) else (f_X8_mean_86 N  k17 S8 x1 x2 (t1 + t0) x5 1 x4))
def f_X8_mean_53 (N : Nat) (k17 : St → Int32 → Int32 → Int32 → Int32 → Int32 → Option (Int32 × St)) (S8 : St) (x1 : Int32) (x2 : Int32) (x3 : Int32) (x4 : Int32) (x5 : Int32) (t0 : Int32) : Option (Int32 × St) := (if t0 = 0 then (f_X8_mean_72 N  k17 S8 x1 x2 x4 x5 t0 0 x3) else (if inb x5 30 = true then (f_X8_mean_72 N  k17 S8 x1 x2 x4 x5 t0 ((S8.2.2 37) (Int32.toNatClampNeg x5)) x3) else none))
def f_X8_mean_52 (N : Nat) (k17 : St → Int32 → Int32 → Int32 → Int32 → Int32 → Option (Int32 × St)) (S8 : St) (x1 : Int32) (x2 : Int32) (x3 : Int32) (x4 : Int32) (x5 : Int32) : Option (Int32 × St) := (f_X8_mean_53 N  k17 S8 x1 x2 x3 x4 x5 0)
def f_X8_mean_17_b (N : Nat) (k17 : St → Int32 → Int32 → Int32 → Int32 → Int32 → Option (Int32 × St)) (S8 : St) (x1 : Int32) (x2 : Int32) (x3 : Int32) (x4 : Int32) (x5 : Int32) : Option (Int32 × St) := (if (S8.1 34) ≤ x5 then (if x4 = 0 then ((f_X8_meets N S8 4).bind (fun r102 => some ((r102.1), (r102.2)))) else (if x4 = 0 then none else some ((x3 / x4), S8))) else (if inb x5 30 = true then (if ((S8.2.2 36) (Int32.toNatClampNeg x5)) = x1 then (if inb x5 30 = true then (if ((S8.2.2 38) (Int32.toNatClampNeg x5)) = x2 then (f_X8_mean_53 N  k17 S8 x1 x2 x3 x4 x5 1) else (f_X8_mean_52 N  k17 S8 x1 x2 x3 x4 x5)) else none) else (f_X8_mean_52 N  k17 S8 x1 x2 x3 x4 x5)) else none))
def f_X8_mean_17 (N : Nat) : Nat → St → Int32 → Int32 → Int32 → Int32 → Int32 → Option (Int32 × St)
  | 0, _, _, _, _, _, _ => none
  | n + 1, y0, y1, y2, y3, y4, y5 => f_X8_mean_17_b N   (fun y0 y1 y2 y3 y4 y5 => f_X8_mean_17 N   n y0 y1 y2 y3 y4 y5) y0 y1 y2 y3 y4 y5
def f_X8_mean (N : Nat) (S8 : St) (x1 : Int32) (x2 : Int32) : Option (Int32 × St) := ((f_X8_isHand N x1).bind (fun r1 => (if r1 = 0 then some ((-1), S8) else (f_X8_mean_17 N   N S8 x1 x2 0 0 0))))
def f_X8_spread_155 (N : Nat) (k7 : St → Int32 → Int32 → Int32 → Option (Int32 × St)) (k20 : St → Int32 → Int32 → Int32 → Int32 → Option (Int32 × St)) (S8 : St) (x1 : Int32) (x2 : Int32) (x3 : Int32) (x4 : Int32) : Option (Int32 × St) := (k20 S8 x1 x2 x3 (x4 + 1))
def f_X8_spread_145 (N : Nat) (k7 : St → Int32 → Int32 → Int32 → Option (Int32 × St)) (k20 : St → Int32 → Int32 → Int32 → Int32 → Option (Int32 × St)) (S8 : St) (x3 : Int32) (x4 : Int32) (x6 : Int32) : Option (Int32 × St) := (if inb x3 30 = true then (f_X8_spread_155 N  k7 k20 S8 x6 ((S8.2.2 35) (Int32.toNatClampNeg x3)) x3 x4) else none)
def f_X8_spread_116 (N : Nat) (k7 : St → Int32 → Int32 → Int32 → Option (Int32 × St)) (k20 : St → Int32 → Int32 → Int32 → Int32 → Option (Int32 × St)) (S8 : St) (x1 : Int32) (x2 : Int32) (x3 : Int32) (x4 : Int32) (x5 : Int32) (t0 : Int32) : Option (Int32 × St) := (if x5 = 0 then (f_X8_spread_155 N  k7 k20 S8 x1 x2 x3 x4) else (if x1 < t0 then (f_X8_spread_145 N  k7 k20 S8 x3 x4 t0) else (if t0 = x1 then (if inb x3 30 = true then (if x2 ≤ ((S8.2.2 35) (Int32.toNatClampNeg x3)) then (f_X8_spread_155 N  k7 k20 S8 x1 x2 x3 x4) else (f_X8_spread_145 N  k7 k20 S8 x3 x4 t0)) else none) else (f_X8_spread_155 N  k7 k20 S8 x1 x2 x3 x4))))
def f_X8_spread_85 (N : Nat) (k7 : St → Int32 → Int32 → Int32 → Option (Int32 × St)) (k20 : St → Int32 → Int32 → Int32 → Int32 → Option (Int32 × St)) (S8 : St) (x1 : Int32) (x2 : Int32) (x3 : Int32) (x4 : Int32) (t0 : Int32) : Option (Int32 × St) := (if inb x3 30 = true then (if inb x4 30 = true then (if 0 ≤ (((S8.2.2 37) (Int32.toNatClampNeg x3)) - ((S8.2.2 37) (Int32.toNatClampNeg x4))) then (f_X8_spread_116 N  k7 k20 S8 x1 x2 x3 x4 t0 (((S8.2.2 37) (Int32.toNatClampNeg x3)) - ((S8.2.2 37) (Int32.toNatClampNeg x4)))) else (f_X8_spread_116 N  k7 k20 S8 x1 x2 x3 x4 t0 (-(((S8.2.2 37) (Int32.toNatClampNeg x3)) - ((S8.2.2 37) (Int32.toNatClampNeg x4)))))) else none) else none)
def f_X8_spread_84 (N : Nat) (k7 : St → Int32 → Int32 → Int32 → Option (Int32 × St)) (k20 : St → Int32 → Int32 → Int32 → Int32 → Option (Int32 × St)) (S8 : St) (x1 : Int32) (x2 : Int32) (x3 : Int32) (x4 : Int32) : Option (Int32 × St) := (f_X8_spread_85 N  k7 k20 S8 x1 x2 x3 x4 0)
def f_X8_spread_20_b (N : Nat) (k7 : St → Int32 → Int32 → Int32 → Option (Int32 × St)) (k20 : St → Int32 → Int32 → Int32 → Int32 → Option (Int32 × St)) (S8 : St) (x1 : Int32) (x2 : Int32) (x3 : Int32) (x4 : Int32) : Option (Int32 × St) := (if (S8.1 34) ≤ x4 then (k7 S8 x1 x2 (x3 + 1)) else (if inb x3 30 = true then (if inb x4 30 = true then (if ((S8.2.2 35) (Int32.toNatClampNeg x3)) = ((S8.2.2 35) (Int32.toNatClampNeg x4)) then (if inb x3 30 = true then (if inb x4 30 = true then (if ((S8.2.2 36) (Int32.toNatClampNeg x3)) = ((S8.2.2 36) (Int32.toNatClampNeg x4)) then (if inb x3 30 = true then (if ((S8.2.2 38) (Int32.toNatClampNeg x3)) = 0 then (if inb x4 30 = true then (if ((S8.2.2 38) (Int32.toNatClampNeg x4)) = 0 then (f_X8_spread_85 N  k7 k20 S8 x1 x2 x3 x4 1) else (f_X8_spread_84 N  k7 k20 S8 x1 x2 x3 x4)) else none) else (f_X8_spread_84 N  k7 k20 S8 x1 x2 x3 x4)) else none) else (f_X8_spread_84 N  k7 k20 S8 x1 x2 x3 x4)) else none) else none) else (f_X8_spread_84 N  k7 k20 S8 x1 x2 x3 x4)) else none) else none))
def f_X8_spread_20 (N : Nat) (k7 : St → Int32 → Int32 → Int32 → Option (Int32 × St)) : Nat → St → Int32 → Int32 → Int32 → Int32 → Option (Int32 × St)
  | 0, _, _, _, _, _ => none
  | n + 1, y0, y1, y2, y3, y4 => f_X8_spread_20_b N  k7 (fun y0 y1 y2 y3 y4 => f_X8_spread_20 N  k7 n y0 y1 y2 y3 y4) y0 y1 y2 y3 y4
def f_X8_spread_7_b (N : Nat) (k7 : St → Int32 → Int32 → Int32 → Option (Int32 × St)) (S8 : St) (x1 : Int32) (x2 : Int32) (x3 : Int32) : Option (Int32 × St) := (if (S8.1 34) ≤ x3 then (if x1 = (-9) then some ((-9), S8) else ((f_X8_tells N S8 x2 x1).bind (fun r181 => some ((r181.1), (r181.2))))) else (f_X8_spread_20 N  k7 N S8 x1 x2 x3 (x3 + 1)))
def f_X8_spread_7 (N : Nat) : Nat → St → Int32 → Int32 → Int32 → Option (Int32 × St)
  | 0, _, _, _, _ => none
  | n + 1, y0, y1, y2, y3 => f_X8_spread_7_b N   (fun y0 y1 y2 y3 => f_X8_spread_7 N   n y0 y1 y2 y3) y0 y1 y2 y3
def f_X8_spread (N : Nat) (S8 : St) : Option (Int32 × St) := (f_X8_spread_7 N   N S8 (-9) 0 0)
def f_X8_sold (N : Nat) (S8 : St) (x1 : Int32) (x2 : Int32) (x3 : Int32) : Option (Int32 × St) := ((f_X8_in N x1 0 (S8.1 5)).bind (fun r6 => (if r6 = 0 then some ((-1), S8) else ((f_X8_in N x2 1 1000000).bind (fun r16 => (if r16 = 0 then some ((-1), S8) else ((f_X8_isHand N x3).bind (fun r23 => (if r23 = 0 then some ((-1), S8) else some (1, (sI (sI (sI S8 39 x1) 40 x2) 41 x3)))))))))))
def f_X8_law (N : Nat) (S8 : St) (x1 : Int32) (x2 : Int32) (x3 : Int32) (x4 : Int32) : Option (Int32 × St) := ((f_X8_isDay N x1).bind (fun r1 => (if r1 = 0 then some ((-1), S8) else ((f_X8_isDay N x2).bind (fun r8 => (if r8 = 0 then some ((-1), S8) else ((f_X8_in N x3 0 100).bind (fun r18 => (if r18 = 0 then some ((-1), S8) else ((f_X8_in N x4 0 100).bind (fun r29 => (if r29 = 0 then some ((-1), S8) else (if (S8.1 42) = 8 then some ((-2), S8) else (if inb (S8.1 42) 8 = true then (if inb (S8.1 42) 8 = true then (if inb (S8.1 42) 8 = true then (if inb (S8.1 42) 8 = true then some ((((S8.1 42) + 1) - 1), (sI (sA (sA (sA (sA S8 43 (upd (S8.2.2 43) (Int32.toNatClampNeg (S8.1 42)) x1)) 44 (upd (S8.2.2 44) (Int32.toNatClampNeg (S8.1 42)) x2)) 45 (upd (S8.2.2 45) (Int32.toNatClampNeg (S8.1 42)) x3)) 46 (upd (S8.2.2 46) (Int32.toNatClampNeg (S8.1 42)) x4)) 42 ((S8.1 42) + 1))) else none) else none) else none) else none))))))))))))))
def f_X8_claim_61 (N : Nat) (k5 : St → Int32 → Int32 → Option (Int32 × St)) (S8 : St) (x2 : Int32) (t0 : Int32) : Option (Int32 × St) := (k5 S8 t0 (x2 + 1))
def f_X8_claim_56 (N : Nat) (k5 : St → Int32 → Int32 → Option (Int32 × St)) (S8 : St) (x2 : Int32) : Option (Int32 × St) := (f_X8_claim_61 N  k5 S8 x2 x2)
def f_X8_claim_60 (N : Nat) (k5 : St → Int32 → Int32 → Option (Int32 × St)) (S8 : St) (x1 : Int32) (x2 : Int32) : Option (Int32 × St) := (f_X8_claim_61 N  k5 S8 x2 x1)
def f_X8_claim_68 (N : Nat) (S8 : St) (x1 : Int32) : Option (Int32 × St) := (if x1 = (-9) then some ((-4), S8) else ((f_X8_allScores N S8).bind (fun r78 => (if (lg_cmp r78 0) = 0 then ((f_X8_meets N S8 4).bind (fun r88 => some ((r88.1), (r88.2)))) else (if inb x1 8 = true then (if ((S8.1 5) - (S8.1 39)) ≤ ((S8.2.2 44) (Int32.toNatClampNeg x1)) then ((f_X8_scoreOf N S8 (S8.1 41)).bind (fun r119 => (if inb x1 8 = true then ((f_X8_allScores N S8).bind (fun r134 => (if (lg_cmp (r119 * 100) ((Int32.toInt64 ((S8.2.2 45) (Int32.toNatClampNeg x1))) * r134)) < 0 then (if inb x1 8 = true then (if 36500 = 0 then none else ((f_X8_tells N S8 (Int64.toInt32 ((Int32.toInt64 (S8.1 40)) + ((((Int32.toInt64 (S8.1 40)) * (Int32.toInt64 ((S8.2.2 46) (Int32.toNatClampNeg x1)))) * (Int32.toInt64 ((S8.1 5) - (S8.1 39)))) / 36500))) 1).bind (fun r175 => some ((r175.1), (r175.2))))) else none) else some (3, S8)))) else none))) else some (2, S8)) else none)))))
def f_X8_claim_5_b (N : Nat) (k5 : St → Int32 → Int32 → Option (Int32 × St)) (S8 : St) (x1 : Int32) (x2 : Int32) : Option (Int32 × St) := (if (S8.1 42) ≤ x2 then (f_X8_claim_68 N   S8 x1) else (if (S8.1 39) = (-9) then (f_X8_claim_68 N   S8 x1) else (if inb x2 8 = true then (if (S8.1 39) < ((S8.2.2 43) (Int32.toNatClampNeg x2)) then (f_X8_claim_60 N  k5 S8 x1 x2) else (if x1 = (-9) then (f_X8_claim_56 N  k5 S8 x2) else (if inb x2 8 = true then (if inb x1 8 = true then (if ((S8.2.2 43) (Int32.toNatClampNeg x2)) < ((S8.2.2 43) (Int32.toNatClampNeg x1)) then (f_X8_claim_60 N  k5 S8 x1 x2) else (f_X8_claim_56 N  k5 S8 x2)) else none) else none))) else none)))
def f_X8_claim_5 (N : Nat) : Nat → St → Int32 → Int32 → Option (Int32 × St)
  | 0, _, _, _ => none
  | n + 1, y0, y1, y2 => f_X8_claim_5_b N   (fun y0 y1 y2 => f_X8_claim_5 N   n y0 y1 y2) y0 y1 y2
def f_X8_claim (N : Nat) (S8 : St) : Option (Int32 × St) := (f_X8_claim_5 N   N S8 (-9) 0)
def f_X8_tellsCount_123 (N : Nat) (S8 : St) (k98 : Int32 → Int32 → Option (Int32)) (x3 : Int32) (t0 : Int32) (t1 : Int32) : Option (Int32) := (k98 (t1 + t0) (x3 + 1))
def f_X8_tellsCount_98_b (N : Nat) (S8 : St) (k98 : Int32 → Int32 → Option (Int32)) (x2 : Int32) (x3 : Int32) : Option (Int32) := (if (S8.1 24) ≤ x3 then some (x2) else (if inb x3 10 = true then (if ((S8.2.2 29) (Int32.toNatClampNeg x3)) = (-9) then (f_X8_tellsCount_123 N S8 k98 x3 0 x2) else (f_X8_tellsCount_123 N S8 k98 x3 1 x2)) else none))
def f_X8_tellsCount_98 (N : Nat) (S8 : St) : Nat → Int32 → Int32 → Option (Int32)
  | 0, _, _ => none
  | n + 1, y0, y1 => f_X8_tellsCount_98_b N S8  (fun y0 y1 => f_X8_tellsCount_98 N S8  n y0 y1) y0 y1
def f_X8_tellsCount_81 (N : Nat) (S8 : St) (k56 : Int32 → Int32 → Option (Int32)) (x3 : Int32) (t0 : Int32) (t1 : Int32) : Option (Int32) := (k56 (t1 + t0) (x3 + 1))
def f_X8_tellsCount_56_b (N : Nat) (S8 : St) (k56 : Int32 → Int32 → Option (Int32)) (x2 : Int32) (x3 : Int32) : Option (Int32) := (if (S8.1 13) ≤ x3 then some (x2) else (if inb x3 24 = true then (if ((S8.2.2 17) (Int32.toNatClampNeg x3)) = (-9) then (f_X8_tellsCount_81 N S8 k56 x3 1 x2) else (f_X8_tellsCount_81 N S8 k56 x3 0 x2)) else none))
def f_X8_tellsCount_56 (N : Nat) (S8 : St) : Nat → Int32 → Int32 → Option (Int32)
  | 0, _, _ => none
  | n + 1, y0, y1 => f_X8_tellsCount_56_b N S8  (fun y0 y1 => f_X8_tellsCount_56 N S8  n y0 y1) y0 y1
def f_X8_tellsCount (N : Nat) (S8 : St) (x1 : Int32) : Option (Int32) := (if x1 = 0 then some ((S8.1 5)) else (if x1 = 1 then some ((S8.1 13)) else (if x1 = 2 then (f_X8_tellsCount_56 N S8  N 0 0) else (if x1 = 3 then some ((S8.1 24)) else (if x1 = 4 then (f_X8_tellsCount_98 N S8  N 0 0) else (if x1 = 5 then some ((S8.1 31)) else (if x1 = 6 then some ((S8.1 34)) else some ((S8.1 42)))))))))
def f_X8_count (N : Nat) (S8 : St) (x1 : Int32) : Option (Int32) := ((f_X8_in N x1 0 7).bind (fun r4 => (if r4 = 0 then some ((-1)) else ((f_X8_tellsCount N S8 x1).bind (fun r12 => some (r12))))))
def f_X8_digest_44_b (N : Nat) (S8 : St) (k33 : Int64 → Int32 → Option (Int64)) (k44 : Int64 → Int32 → Int32 → Option (Int64)) (x1 : Int64) (x3 : Int32) (x4 : Int32) : Option (Int64) := (if 6 ≤ x4 then (k33 x1 (x3 + 1)) else ((f_X8_toldOf N S8 x3 x4).bind (fun r60 => (k44 ((31 * x1) + (Int32.toInt64 r60)) x3 (x4 + 1)))))
def f_X8_digest_44 (N : Nat) (S8 : St) (k33 : Int64 → Int32 → Option (Int64)) : Nat → Int64 → Int32 → Int32 → Option (Int64)
  | 0, _, _, _ => none
  | n + 1, y0, y1, y2 => f_X8_digest_44_b N S8 k33 (fun y0 y1 y2 => f_X8_digest_44 N S8 k33 n y0 y1 y2) y0 y1 y2
def f_X8_digest_156_b (N : Nat) (S8 : St) (k107 : Int64 → Int32 → Option (Int64)) (k156 : Int64 → Int32 → Int32 → Option (Int64)) (x1 : Int64) (x3 : Int32) (x4 : Int32) : Option (Int64) := (if 4 ≤ x4 then (if inb x3 10 = true then (k107 ((31 * x1) + (Int32.toInt64 ((S8.2.2 29) (Int32.toNatClampNeg x3)))) (x3 + 1)) else none) else (if inb ((4 * x3) + x4) 40 = true then (k156 ((31 * x1) + (Int32.toInt64 ((S8.2.2 28) (Int32.toNatClampNeg ((4 * x3) + x4))))) x3 (x4 + 1)) else none))
def f_X8_digest_156 (N : Nat) (S8 : St) (k107 : Int64 → Int32 → Option (Int64)) : Nat → Int64 → Int32 → Int32 → Option (Int64)
  | 0, _, _, _ => none
  | n + 1, y0, y1, y2 => f_X8_digest_156_b N S8 k107 (fun y0 y1 y2 => f_X8_digest_156 N S8 k107 n y0 y1 y2) y0 y1 y2
def f_X8_digest_260_b (N : Nat) (S8 : St) (k237 : Int64 → Int32 → Option (Int64)) (k260 : Int64 → Int32 → Int32 → Option (Int64)) (x1 : Int64) (x3 : Int32) (x4 : Int32) : Option (Int64) := (if inb x3 6 = true then (if ((S8.2.2 6) (Int32.toNatClampNeg x3)) ≤ x4 then (k237 x1 (x3 + 1)) else (if inb ((40 * x3) + x4) 240 = true then (k260 ((31 * x1) + (Int32.toInt64 ((S8.2.2 7) (Int32.toNatClampNeg ((40 * x3) + x4))))) x3 (x4 + 1)) else none)) else none)
def f_X8_digest_260 (N : Nat) (S8 : St) (k237 : Int64 → Int32 → Option (Int64)) : Nat → Int64 → Int32 → Int32 → Option (Int64)
  | 0, _, _, _ => none
  | n + 1, y0, y1, y2 => f_X8_digest_260_b N S8 k237 (fun y0 y1 y2 => f_X8_digest_260 N S8 k237 n y0 y1 y2) y0 y1 y2
def f_X8_digest_237_b (N : Nat) (S8 : St) (k237 : Int64 → Int32 → Option (Int64)) (x1 : Int64) (x3 : Int32) : Option (Int64) := (if 6 ≤ x3 then some (x1) else (if inb x3 6 = true then (f_X8_digest_260 N S8 k237 N ((31 * x1) + (Int32.toInt64 ((S8.2.2 6) (Int32.toNatClampNeg x3)))) x3 0) else none))
def f_X8_digest_237 (N : Nat) (S8 : St) : Nat → Int64 → Int32 → Option (Int64)
  | 0, _, _ => none
  | n + 1, y0, y1 => f_X8_digest_237_b N S8  (fun y0 y1 => f_X8_digest_237 N S8  n y0 y1) y0 y1
def f_X8_digest_209_b (N : Nat) (S8 : St) (k209 : Int64 → Int32 → Option (Int64)) (x1 : Int64) (x3 : Int32) : Option (Int64) := (if 10 ≤ x3 then (f_X8_digest_237 N S8  N x1 0) else (if inb x3 10 = true then (k209 ((31 * x1) + (Int32.toInt64 ((S8.2.2 9) (Int32.toNatClampNeg x3)))) (x3 + 1)) else none))
def f_X8_digest_209 (N : Nat) (S8 : St) : Nat → Int64 → Int32 → Option (Int64)
  | 0, _, _ => none
  | n + 1, y0, y1 => f_X8_digest_209_b N S8  (fun y0 y1 => f_X8_digest_209 N S8  n y0 y1) y0 y1
def f_X8_digest_107_b (N : Nat) (S8 : St) (k107 : Int64 → Int32 → Option (Int64)) (x1 : Int64) (x3 : Int32) : Option (Int64) := (if (S8.1 24) ≤ x3 then (f_X8_digest_209 N S8  N x1 0) else (if inb x3 10 = true then (if inb x3 10 = true then (if inb x3 10 = true then (f_X8_digest_156 N S8 k107 N ((31 * ((31 * ((31 * x1) + (Int32.toInt64 ((S8.2.2 25) (Int32.toNatClampNeg x3))))) + (Int32.toInt64 ((S8.2.2 26) (Int32.toNatClampNeg x3))))) + (Int32.toInt64 ((S8.2.2 27) (Int32.toNatClampNeg x3)))) x3 0) else none) else none) else none))
def f_X8_digest_107 (N : Nat) (S8 : St) : Nat → Int64 → Int32 → Option (Int64)
  | 0, _, _ => none
  | n + 1, y0, y1 => f_X8_digest_107_b N S8  (fun y0 y1 => f_X8_digest_107 N S8  n y0 y1) y0 y1
def f_X8_digest_80_b (N : Nat) (S8 : St) (k80 : Int64 → Int32 → Option (Int64)) (x1 : Int64) (x3 : Int32) : Option (Int64) := (if 4 ≤ x3 then (f_X8_digest_107 N S8  N x1 0) else (if inb x3 4 = true then (k80 ((31 * x1) + (Int32.toInt64 ((S8.2.2 23) (Int32.toNatClampNeg x3)))) (x3 + 1)) else none))
def f_X8_digest_80 (N : Nat) (S8 : St) : Nat → Int64 → Int32 → Option (Int64)
  | 0, _, _ => none
  | n + 1, y0, y1 => f_X8_digest_80_b N S8  (fun y0 y1 => f_X8_digest_80 N S8  n y0 y1) y0 y1
def f_X8_digest_33_b (N : Nat) (S8 : St) (k33 : Int64 → Int32 → Option (Int64)) (x1 : Int64) (x3 : Int32) : Option (Int64) := (if (S8.1 13) ≤ x3 then (f_X8_digest_80 N S8  N x1 0) else (f_X8_digest_44 N S8 k33 N x1 x3 0))
def f_X8_digest_33 (N : Nat) (S8 : St) : Nat → Int64 → Int32 → Option (Int64)
  | 0, _, _ => none
  | n + 1, y0, y1 => f_X8_digest_33_b N S8  (fun y0 y1 => f_X8_digest_33 N S8  n y0 y1) y0 y1
def f_X8_digest_6_b (N : Nat) (S8 : St) (k6 : Int64 → Int32 → Option (Int64)) (x1 : Int64) (x3 : Int32) : Option (Int64) := (if 8 ≤ x3 then (f_X8_digest_33 N S8  N x1 0) else ((f_X8_tellsCount N S8 x3).bind (fun r19 => (k6 ((31 * x1) + (Int32.toInt64 r19)) (x3 + 1)))))
def f_X8_digest_6 (N : Nat) (S8 : St) : Nat → Int64 → Int32 → Option (Int64)
  | 0, _, _ => none
  | n + 1, y0, y1 => f_X8_digest_6_b N S8  (fun y0 y1 => f_X8_digest_6 N S8  n y0 y1) y0 y1
def f_X8_digest (N : Nat) (S8 : St) : Option (Int64) := (f_X8_digest_6 N S8  N 17 0)
