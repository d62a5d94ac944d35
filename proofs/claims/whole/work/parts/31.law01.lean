def j_law_230L43 (L : Nat) (xs : Nat → Int32) (v4 : Int32) (w0 : Int64) (w1 : Int64) (x : gx_S) : Option ((Int32 × gx_S) ⊕ (Nat × Int32 × gx_S)) :=
  if (lg_cmp w1 w0) = 0 then (some (.inl (v4 + 4, x))) else (some (.inr (1, v4, x)))
def j_law_196L43 (L : Nat) (xs : Nat → Int32) (v4 : Int32) (v5 : Int32) (w0 : Int32) (w1 : Int32) (w2 : Int32) (x : gx_S) : Option ((Int32 × gx_S) ⊕ (Nat × Int32 × gx_S)) :=
  gx_bd (f_CaseLayoutModel_wall w2 w1 w0 x) (fun r15 x15 => gx_bd (f_CaseLayoutModel_thrown  x15) (fun r16 x16 => if r16 = v5 then (if v5 = 0 then (gx_ck 0 1 (if r15 = 0 then (j_law_230L43 L xs v4 0 (gx_gL x16 (0 : Int32).toNatClampNeg) x16) else (j_law_230L43 L xs v4 1 (gx_gL x16 (0 : Int32).toNatClampNeg) x16))) else (some (.inl (v4 + 4, x16)))) else (some (.inr (0, v4, x16)))))
def j_law_163L43 (L : Nat) (xs : Nat → Int32) (v4 : Int32) (w0 : Int32) (w1 : Int32) (w2 : Int32) (x : gx_S) : Option ((Int32 × gx_S) ⊕ (Nat × Int32 × gx_S)) :=
  gx_bd (f_CaseLayoutLaw_wall w2 w1 w0 x) (fun r10 x10 => gx_ck (v4 + 1) L (gx_ck (v4 + 2) L (gx_ck (v4 + 3) L (if (xs (v4 + 3 : Int32).toNatClampNeg) = 0 then (j_law_196L43 L xs v4 r10 0 (xs (v4 + 2 : Int32).toNatClampNeg) (xs (v4 + 1 : Int32).toNatClampNeg) x10) else (j_law_196L43 L xs v4 r10 1 (xs (v4 + 2 : Int32).toNatClampNeg) (xs (v4 + 1 : Int32).toNatClampNeg) x10)))))
def j_law_721L43 (L : Nat) (xs : Nat → Int32) (v4 : Int32) (w0 : Int64) (w1 : Int64) (x : gx_S) : Option ((Int32 × gx_S) ⊕ (Nat × Int32 × gx_S)) :=
  if (lg_cmp w1 w0) = 0 then (some (.inl (v4 + 4, x))) else (some (.inr (13, v4, x)))
def j_law_687L43 (L : Nat) (xs : Nat → Int32) (v4 : Int32) (v5 : Int32) (w0 : Int32) (w1 : Int32) (w2 : Int32) (x : gx_S) : Option ((Int32 × gx_S) ⊕ (Nat × Int32 × gx_S)) :=
  gx_bd (f_CaseLayoutModel_sees w2 w1 w0 x) (fun r100 x100 => gx_bd (f_CaseLayoutModel_thrown  x100) (fun r101 x101 => if r101 = v5 then (if v5 = 0 then (gx_ck 0 1 (if r100 = 0 then (j_law_721L43 L xs v4 0 (gx_gL x101 (0 : Int32).toNatClampNeg) x101) else (j_law_721L43 L xs v4 1 (gx_gL x101 (0 : Int32).toNatClampNeg) x101))) else (some (.inl (v4 + 4, x101)))) else (some (.inr (12, v4, x101)))))
def j_law_654L43 (L : Nat) (xs : Nat → Int32) (v4 : Int32) (w0 : Int32) (w1 : Int32) (w2 : Int32) (x : gx_S) : Option ((Int32 × gx_S) ⊕ (Nat × Int32 × gx_S)) :=
  gx_bd (f_CaseLayoutLaw_sees w2 w1 w0 x) (fun r95 x95 => gx_ck (v4 + 1) L (gx_ck (v4 + 2) L (gx_ck (v4 + 3) L (if (xs (v4 + 3 : Int32).toNatClampNeg) = 0 then (j_law_687L43 L xs v4 r95 0 (xs (v4 + 2 : Int32).toNatClampNeg) (xs (v4 + 1 : Int32).toNatClampNeg) x95) else (j_law_687L43 L xs v4 r95 1 (xs (v4 + 2 : Int32).toNatClampNeg) (xs (v4 + 1 : Int32).toNatClampNeg) x95)))))
def j_law_1070L43 (L : Nat) (xs : Nat → Int32) (v4 : Int32) (w0 : Int64) (w1 : Int64) (x : gx_S) : Option ((Int32 × gx_S) ⊕ (Nat × Int32 × gx_S)) :=
  if (lg_cmp w1 w0) = 0 then (some (.inl (v4 + 4, x))) else (some (.inr (25, v4, x)))
def s_law_43 (L : Nat) (xs : Nat → Int32)  (a : Int32 × gx_S) : Option ((Int32 × gx_S) ⊕ (Nat × Int32 × gx_S)) :=
  if ((Int32.ofNat L) - 4) < a.1 then (some (.inr (30, a.1, a.2))) else (gx_ck a.1 L (if ((xs (a.1 : Int32).toNatClampNeg) &&& 15) < 0 then (some (.inl (a.1 + 4, a.2))) else if 15 < ((xs (a.1 : Int32).toNatClampNeg) &&& 15) then (some (.inl (a.1 + 4, a.2))) else if ((xs (a.1 : Int32).toNatClampNeg) &&& 15) = 0 then (gx_ck (a.1 + 1) L (gx_ck (a.1 + 2) L (gx_ck (a.1 + 3) L (if (xs (a.1 + 3 : Int32).toNatClampNeg) = 0 then (j_law_163L43 L xs a.1 0 (xs (a.1 + 2 : Int32).toNatClampNeg) (xs (a.1 + 1 : Int32).toNatClampNeg) a.2) else (j_law_163L43 L xs a.1 1 (xs (a.1 + 2 : Int32).toNatClampNeg) (xs (a.1 + 1 : Int32).toNatClampNeg) a.2))))) else (if ((xs (a.1 : Int32).toNatClampNeg) &&& 15) = 1 then (gx_ck (a.1 + 1) L (gx_ck (a.1 + 2) L (gx_ck (a.1 + 3) L (gx_bd (f_CaseLayoutLaw_zone (xs (a.1 + 1 : Int32).toNatClampNeg) (xs (a.1 + 2 : Int32).toNatClampNeg) (xs (a.1 + 3 : Int32).toNatClampNeg) a.2) (fun r26 x26 => gx_ck (a.1 + 1) L (gx_ck (a.1 + 2) L (gx_ck (a.1 + 3) L (gx_bd (f_CaseLayoutModel_zone (xs (a.1 + 1 : Int32).toNatClampNeg) (xs (a.1 + 2 : Int32).toNatClampNeg) (xs (a.1 + 3 : Int32).toNatClampNeg) x26) (fun r30 x30 => gx_bd (f_CaseLayoutModel_thrown  x30) (fun r31 x31 => if r31 = r26 then (if r26 = 0 then (gx_ck 0 1 (if (lg_cmp (gx_gL x31 (0 : Int32).toNatClampNeg) (Int32.toInt64 r30)) = 0 then (some (.inl (a.1 + 4, x31))) else (some (.inr (3, a.1, x31))))) else (some (.inl (a.1 + 4, x31)))) else (some (.inr (2, a.1, x31))))))))))))) else (if ((xs (a.1 : Int32).toNatClampNeg) &&& 15) = 2 then (gx_ck (a.1 + 1) L (gx_ck (a.1 + 2) L (gx_ck (a.1 + 3) L (gx_bd (f_CaseLayoutLaw_thing (xs (a.1 + 1 : Int32).toNatClampNeg) (xs (a.1 + 2 : Int32).toNatClampNeg) (xs (a.1 + 3 : Int32).toNatClampNeg) a.2) (fun r40 x40 => gx_ck (a.1 + 1) L (gx_ck (a.1 + 2) L (gx_ck (a.1 + 3) L (gx_bd (f_CaseLayoutModel_thing (xs (a.1 + 1 : Int32).toNatClampNeg) (xs (a.1 + 2 : Int32).toNatClampNeg) (xs (a.1 + 3 : Int32).toNatClampNeg) x40) (fun r44 x44 => gx_bd (f_CaseLayoutModel_thrown  x44) (fun r45 x45 => if r45 = r40 then (if r40 = 0 then (gx_ck 0 1 (if (lg_cmp (gx_gL x45 (0 : Int32).toNatClampNeg) (Int32.toInt64 r44)) = 0 then (some (.inl (a.1 + 4, x45))) else (some (.inr (5, a.1, x45))))) else (some (.inl (a.1 + 4, x45)))) else (some (.inr (4, a.1, x45))))))))))))) else (if ((xs (a.1 : Int32).toNatClampNeg) &&& 15) = 3 then (gx_ck (a.1 + 1) L (gx_ck (a.1 + 2) L (gx_ck (a.1 + 3) L (gx_bd (f_CaseLayoutLaw_apart (xs (a.1 + 1 : Int32).toNatClampNeg) (xs (a.1 + 2 : Int32).toNatClampNeg) (xs (a.1 + 3 : Int32).toNatClampNeg) a.2) (fun r54 x54 => gx_ck (a.1 + 1) L (gx_ck (a.1 + 2) L (gx_ck (a.1 + 3) L (gx_bd (f_CaseLayoutModel_apart (xs (a.1 + 1 : Int32).toNatClampNeg) (xs (a.1 + 2 : Int32).toNatClampNeg) (xs (a.1 + 3 : Int32).toNatClampNeg) x54) (fun r58 x58 => gx_bd (f_CaseLayoutModel_thrown  x58) (fun r59 x59 => if r59 = r54 then (if r54 = 0 then (gx_ck 0 1 (if (lg_cmp (gx_gL x59 (0 : Int32).toNatClampNeg) (Int32.toInt64 r58)) = 0 then (some (.inl (a.1 + 4, x59))) else (some (.inr (7, a.1, x59))))) else (some (.inl (a.1 + 4, x59)))) else (some (.inr (6, a.1, x59))))))))))))) else (if ((xs (a.1 : Int32).toNatClampNeg) &&& 15) = 4 then (gx_ck (a.1 + 1) L (gx_ck (a.1 + 2) L (gx_ck (a.1 + 3) L (gx_bd (f_CaseLayoutLaw_wish (xs (a.1 + 1 : Int32).toNatClampNeg) (xs (a.1 + 2 : Int32).toNatClampNeg) (xs (a.1 + 3 : Int32).toNatClampNeg) a.2) (fun r68 x68 => gx_ck (a.1 + 1) L (gx_ck (a.1 + 2) L (gx_ck (a.1 + 3) L (gx_bd (f_CaseLayoutModel_wish (xs (a.1 + 1 : Int32).toNatClampNeg) (xs (a.1 + 2 : Int32).toNatClampNeg) (xs (a.1 + 3 : Int32).toNatClampNeg) x68) (fun r72 x72 => gx_bd (f_CaseLayoutModel_thrown  x72) (fun r73 x73 => if r73 = r68 then (if r68 = 0 then (gx_ck 0 1 (if (lg_cmp (gx_gL x73 (0 : Int32).toNatClampNeg) (Int32.toInt64 r72)) = 0 then (some (.inl (a.1 + 4, x73))) else (some (.inr (9, a.1, x73))))) else (some (.inl (a.1 + 4, x73)))) else (some (.inr (8, a.1, x73))))))))))))) else (if ((xs (a.1 : Int32).toNatClampNeg) &&& 15) = 5 then (gx_ck (a.1 + 1) L (gx_ck (a.1 + 2) L (gx_bd (f_CaseLayoutLaw_place (xs (a.1 + 1 : Int32).toNatClampNeg) (xs (a.1 + 2 : Int32).toNatClampNeg) a.2) (fun r81 x81 => gx_ck (a.1 + 1) L (gx_ck (a.1 + 2) L (gx_bd (f_CaseLayoutModel_place (xs (a.1 + 1 : Int32).toNatClampNeg) (xs (a.1 + 2 : Int32).toNatClampNeg) x81) (fun r84 x84 => gx_bd (f_CaseLayoutModel_thrown  x84) (fun r85 x85 => if r85 = r81 then (if r81 = 0 then (gx_ck 0 1 (if (lg_cmp (gx_gL x85 (0 : Int32).toNatClampNeg) (Int32.toInt64 r84)) = 0 then (some (.inl (a.1 + 4, x85))) else (some (.inr (11, a.1, x85))))) else (some (.inl (a.1 + 4, x85)))) else (some (.inr (10, a.1, x85))))))))))) else (if ((xs (a.1 : Int32).toNatClampNeg) &&& 15) = 6 then (gx_ck (a.1 + 1) L (gx_ck (a.1 + 2) L (gx_ck (a.1 + 3) L (if (xs (a.1 + 3 : Int32).toNatClampNeg) = 0 then (j_law_654L43 L xs a.1 0 (xs (a.1 + 2 : Int32).toNatClampNeg) (xs (a.1 + 1 : Int32).toNatClampNeg) a.2) else (j_law_654L43 L xs a.1 1 (xs (a.1 + 2 : Int32).toNatClampNeg) (xs (a.1 + 1 : Int32).toNatClampNeg) a.2))))) else (if ((xs (a.1 : Int32).toNatClampNeg) &&& 15) = 7 then (gx_ck (a.1 + 1) L (gx_ck (a.1 + 2) L (gx_bd (f_CaseLayoutLaw_exit (xs (a.1 + 1 : Int32).toNatClampNeg) (xs (a.1 + 2 : Int32).toNatClampNeg) a.2) (fun r110 x110 => gx_ck (a.1 + 1) L (gx_ck (a.1 + 2) L (gx_bd (f_CaseLayoutModel_exit (xs (a.1 + 1 : Int32).toNatClampNeg) (xs (a.1 + 2 : Int32).toNatClampNeg) x110) (fun r113 x113 => gx_bd (f_CaseLayoutModel_thrown  x113) (fun r114 x114 => if r114 = r110 then (if r110 = 0 then (gx_ck 0 1 (if (lg_cmp (gx_gL x114 (0 : Int32).toNatClampNeg) (Int32.toInt64 r113)) = 0 then (some (.inl (a.1 + 4, x114))) else (some (.inr (15, a.1, x114))))) else (some (.inl (a.1 + 4, x114)))) else (some (.inr (14, a.1, x114))))))))))) else (if ((xs (a.1 : Int32).toNatClampNeg) &&& 15) = 8 then (gx_ck (a.1 + 1) L (gx_bd (f_CaseLayoutLaw_most (xs (a.1 + 1 : Int32).toNatClampNeg) a.2) (fun r121 x121 => gx_ck (a.1 + 1) L (gx_bd (f_CaseLayoutModel_most (xs (a.1 + 1 : Int32).toNatClampNeg) x121) (fun r123 x123 => gx_bd (f_CaseLayoutModel_thrown  x123) (fun r124 x124 => if r124 = r121 then (if r121 = 0 then (gx_ck 0 1 (if (lg_cmp (gx_gL x124 (0 : Int32).toNatClampNeg) (Int32.toInt64 r123)) = 0 then (some (.inl (a.1 + 4, x124))) else (some (.inr (17, a.1, x124))))) else (some (.inl (a.1 + 4, x124)))) else (some (.inr (16, a.1, x124))))))))) else (if ((xs (a.1 : Int32).toNatClampNeg) &&& 15) = 9 then (gx_ck (a.1 + 1) L (gx_bd (f_CaseLayoutLaw_run (xs (a.1 + 1 : Int32).toNatClampNeg) a.2) (fun r131 x131 => gx_ck (a.1 + 1) L (gx_bd (f_CaseLayoutModel_run (xs (a.1 + 1 : Int32).toNatClampNeg) x131) (fun r133 x133 => gx_bd (f_CaseLayoutModel_thrown  x133) (fun r134 x134 => if r134 = r131 then (if r131 = 0 then (gx_ck 0 1 (if (lg_cmp (gx_gL x134 (0 : Int32).toNatClampNeg) (Int32.toInt64 r133)) = 0 then (some (.inl (a.1 + 4, x134))) else (some (.inr (19, a.1, x134))))) else (some (.inl (a.1 + 4, x134)))) else (some (.inr (18, a.1, x134))))))))) else (if ((xs (a.1 : Int32).toNatClampNeg) &&& 15) = 10 then (gx_bd (f_CaseLayout_nodes  a.2) (fun r140 x140 => gx_bd (f_CaseLayoutModel_nodes  x140) (fun r141 x141 => if r140 = r141 then (some (.inl (a.1 + 4, x141))) else (some (.inr (20, a.1, x141)))))) else (if ((xs (a.1 : Int32).toNatClampNeg) &&& 15) = 11 then (gx_ck (a.1 + 1) L (gx_ck (a.1 + 2) L (gx_bd (f_CaseLayoutLaw_at (xs (a.1 + 1 : Int32).toNatClampNeg) (xs (a.1 + 2 : Int32).toNatClampNeg) a.2) (fun r146 x146 => gx_ck (a.1 + 1) L (gx_ck (a.1 + 2) L (gx_bd (f_CaseLayoutModel_at (xs (a.1 + 1 : Int32).toNatClampNeg) (xs (a.1 + 2 : Int32).toNatClampNeg) x146) (fun r149 x149 => gx_bd (f_CaseLayoutModel_thrown  x149) (fun r150 x150 => if r150 = r146 then (if r146 = 0 then (gx_ck 0 1 (if (lg_cmp (gx_gL x150 (0 : Int32).toNatClampNeg) (Int32.toInt64 r149)) = 0 then (some (.inl (a.1 + 4, x150))) else (some (.inr (22, a.1, x150))))) else (some (.inl (a.1 + 4, x150)))) else (some (.inr (21, a.1, x150))))))))))) else (if ((xs (a.1 : Int32).toNatClampNeg) &&& 15) = 12 then (gx_bd (f_CaseLayout_worth  a.2) (fun r156 x156 => gx_bd (f_CaseLayoutModel_worth  x156) (fun r157 x157 => if r156 = r157 then (some (.inl (a.1 + 4, x157))) else (some (.inr (23, a.1, x157)))))) else (if ((xs (a.1 : Int32).toNatClampNeg) &&& 15) = 13 then (gx_ck (a.1 + 1) L (gx_ck (a.1 + 2) L (gx_bd (f_CaseLayoutLaw_sight (xs (a.1 + 1 : Int32).toNatClampNeg) (xs (a.1 + 2 : Int32).toNatClampNeg) a.2) (fun r162 x162 => gx_ck (a.1 + 1) L (gx_ck (a.1 + 2) L (gx_bd (f_CaseLayoutModel_sight (xs (a.1 + 1 : Int32).toNatClampNeg) (xs (a.1 + 2 : Int32).toNatClampNeg) x162) (fun r165 x165 => gx_bd (f_CaseLayoutModel_thrown  x165) (fun r166 x166 => if r166 = r162 then (if r162 = 0 then (gx_ck 0 1 (if r165 = 0 then (j_law_1070L43 L xs a.1 0 (gx_gL x166 (0 : Int32).toNatClampNeg) x166) else (j_law_1070L43 L xs a.1 1 (gx_gL x166 (0 : Int32).toNatClampNeg) x166))) else (some (.inl (a.1 + 4, x166)))) else (some (.inr (24, a.1, x166))))))))))) else (if ((xs (a.1 : Int32).toNatClampNeg) &&& 15) = 14 then (gx_ck (a.1 + 1) L (gx_ck (a.1 + 2) L (gx_bd (f_CaseLayoutLaw_escape (xs (a.1 + 1 : Int32).toNatClampNeg) (xs (a.1 + 2 : Int32).toNatClampNeg) a.2) (fun r175 x175 => gx_ck (a.1 + 1) L (gx_ck (a.1 + 2) L (gx_bd (f_CaseLayoutModel_escape (xs (a.1 + 1 : Int32).toNatClampNeg) (xs (a.1 + 2 : Int32).toNatClampNeg) x175) (fun r178 x178 => gx_bd (f_CaseLayoutModel_thrown  x178) (fun r179 x179 => if r179 = r175 then (if r175 = 0 then (gx_ck 0 1 (if (lg_cmp (gx_gL x179 (0 : Int32).toNatClampNeg) (Int32.toInt64 r178)) = 0 then (some (.inl (a.1 + 4, x179))) else (some (.inr (27, a.1, x179))))) else (some (.inl (a.1 + 4, x179)))) else (some (.inr (26, a.1, x179))))))))))) else (gx_ck (a.1 + 1) L (gx_bd (f_CaseLayoutLaw_count (xs (a.1 + 1 : Int32).toNatClampNeg) a.2) (fun r185 x185 => gx_ck (a.1 + 1) L (gx_bd (f_CaseLayoutModel_count (xs (a.1 + 1 : Int32).toNatClampNeg) x185) (fun r187 x187 => gx_bd (f_CaseLayoutModel_thrown  x187) (fun r188 x188 => if r188 = r185 then (if r185 = 0 then (gx_ck 0 1 (if (lg_cmp (gx_gL x188 (0 : Int32).toNatClampNeg) (Int32.toInt64 r187)) = 0 then (some (.inl (a.1 + 4, x188))) else (some (.inr (29, a.1, x188))))) else (some (.inl (a.1 + 4, x188)))) else (some (.inr (28, a.1, x188)))))))))))))))))))))))))
def pp_law_43 (K : gx_K) (E : gx_E) (b n k : Nat)  (a : Int32 × gx_S) : Prop := gx_G K E (gx_AB true E K.s.heap.size) n k (a.2) 43 [(0, .ref b), (1, .ref (gx_ad E 28)), (2, .ref (gx_ad E 29)), (3, .ref (gx_ad E 48)), (4, .int a.1)] []
def pq_law_43 (K : gx_K) (E : gx_E) (b n k : Nat)  (b : Nat × Int32 × gx_S) : Prop := if b.1 = 0 then gx_G K E (gx_AB true E K.s.heap.size) n k (b.2.2) 210 [] [] else (if b.1 = 1 then gx_G K E (gx_AB true E K.s.heap.size) n k (b.2.2) 234 [] [] else (if b.1 = 2 then gx_G K E (gx_AB true E K.s.heap.size) n k (b.2.2) 297 [] [] else (if b.1 = 3 then gx_G K E (gx_AB true E K.s.heap.size) n k (b.2.2) 314 [] [] else (if b.1 = 4 then gx_G K E (gx_AB true E K.s.heap.size) n k (b.2.2) 377 [] [] else (if b.1 = 5 then gx_G K E (gx_AB true E K.s.heap.size) n k (b.2.2) 394 [] [] else (if b.1 = 6 then gx_G K E (gx_AB true E K.s.heap.size) n k (b.2.2) 457 [] [] else (if b.1 = 7 then gx_G K E (gx_AB true E K.s.heap.size) n k (b.2.2) 474 [] [] else (if b.1 = 8 then gx_G K E (gx_AB true E K.s.heap.size) n k (b.2.2) 537 [] [] else (if b.1 = 9 then gx_G K E (gx_AB true E K.s.heap.size) n k (b.2.2) 554 [] [] else (if b.1 = 10 then gx_G K E (gx_AB true E K.s.heap.size) n k (b.2.2) 605 [] [] else (if b.1 = 11 then gx_G K E (gx_AB true E K.s.heap.size) n k (b.2.2) 622 [] [] else (if b.1 = 12 then gx_G K E (gx_AB true E K.s.heap.size) n k (b.2.2) 701 [] [] else (if b.1 = 13 then gx_G K E (gx_AB true E K.s.heap.size) n k (b.2.2) 725 [] [] else (if b.1 = 14 then gx_G K E (gx_AB true E K.s.heap.size) n k (b.2.2) 776 [] [] else (if b.1 = 15 then gx_G K E (gx_AB true E K.s.heap.size) n k (b.2.2) 793 [] [] else (if b.1 = 16 then gx_G K E (gx_AB true E K.s.heap.size) n k (b.2.2) 832 [] [] else (if b.1 = 17 then gx_G K E (gx_AB true E K.s.heap.size) n k (b.2.2) 849 [] [] else (if b.1 = 18 then gx_G K E (gx_AB true E K.s.heap.size) n k (b.2.2) 888 [] [] else (if b.1 = 19 then gx_G K E (gx_AB true E K.s.heap.size) n k (b.2.2) 905 [] [] else (if b.1 = 20 then gx_G K E (gx_AB true E K.s.heap.size) n k (b.2.2) 921 [] [] else (if b.1 = 21 then gx_G K E (gx_AB true E K.s.heap.size) n k (b.2.2) 969 [] [] else (if b.1 = 22 then gx_G K E (gx_AB true E K.s.heap.size) n k (b.2.2) 986 [] [] else (if b.1 = 23 then gx_G K E (gx_AB true E K.s.heap.size) n k (b.2.2) 1002 [] [] else (if b.1 = 24 then gx_G K E (gx_AB true E K.s.heap.size) n k (b.2.2) 1050 [] [] else (if b.1 = 25 then gx_G K E (gx_AB true E K.s.heap.size) n k (b.2.2) 1074 [] [] else (if b.1 = 26 then gx_G K E (gx_AB true E K.s.heap.size) n k (b.2.2) 1125 [] [] else (if b.1 = 27 then gx_G K E (gx_AB true E K.s.heap.size) n k (b.2.2) 1142 [] [] else (if b.1 = 28 then gx_G K E (gx_AB true E K.s.heap.size) n k (b.2.2) 1181 [] [] else (if b.1 = 29 then gx_G K E (gx_AB true E K.s.heap.size) n k (b.2.2) 1198 [] [] else (gx_G K E (gx_AB true E K.s.heap.size) n k (b.2.2) 1209 [] []))))))))))))))))))))))))))))))
set_option maxHeartbeats 4000000 in
set_option maxRecDepth 100000 in
theorem jc_law_230L43 {K : gx_K} {E : gx_E} {b L : Nat} {xs : Nat → Int32} {n k : Nat} (C : gx_C K E "CaseLayoutLaw" code 7) (hR : K.R = room_1) (hlt : K.l.stackTraces = false) (hX : va_X b L xs K.s K.s.heap) (hbl : b < K.s.heap.size) (hbA : ¬ gx_AB true E K.s.heap.size b) (hn : n + 4 ≤ 601024) (hk2 : k + 24 ≤ 7293000) (v4 : Int32) (w0 : Int64) (w1 : Int64) (x : gx_S) (o : (Int32 × gx_S) ⊕ (Nat × Int32 × gx_S)) (hf : j_law_230L43 L xs v4 w0 w1 x = some o) (hk : gx_or (pp_law_43 K E b (n + 4) (k + 24) ) (pq_law_43 K E b (n + 4) (k + 24) ) o) : gx_G K E (gx_AB true E K.s.heap.size) (n + 1) (k + 6) x 230 [(0, .ref b), (1, .ref (gx_ad E 28)), (2, .ref (gx_ad E 29)), (3, .ref (gx_ad E 48)), (4, .int v4)] [.long w0, .long w1] := by
  unfold j_law_230L43 at hf
  refine gx_lcmp C d_Law_law_230 ?_
  refine gx_if_eq (tgt := 236) C d_Law_law_231 (by decide) (fun h21 => ?_) (fun h21 => ?_)
  · have hf := (if_pos h21).symm.trans hf
    refine gx_goto (tgt := 1203) C d_Law_law_236 (by decide) ?_
    refine gx_iinc C (v := v4 + 4) (lv' := [(4, .int (v4 + 4)), (0, .ref b), (1, .ref (gx_ad E 28)), (2, .ref (gx_ad E 29)), (3, .ref (gx_ad E 48))]) 4 d_Law_law_1203 rfl rfl (by decide) rfl ?_
    refine gx_goto (tgt := 43) C d_Law_law_1206 (by decide) ?_
    cases hf
    refine gx_widen (n' := n + 4) (k' := k + 24) (by omega) (by omega) ?_
    refine gx_lv (lv' := [(0, .ref b), (1, .ref (gx_ad E 28)), (2, .ref (gx_ad E 29)), (3, .ref (gx_ad E 48)), (4, .int (v4 + 4))]) [1, 2, 3, 4, 0] rfl ?_
    exact hk
  · have hf := (if_neg h21).symm.trans hf
    cases hf
    have hk : pq_law_43 K E b (n + 4) (k + 24)  _ := hk
    unfold pq_law_43 at hk
    have hk := gx_ifn (by decide : ¬ ((1 : Nat) = 0)) hk
    refine gx_widen (n' := n + 4) (k' := k + 24) (by omega) (by omega) ?_
    have hk := gx_ifp (rfl : (1 : Nat) = 1) hk
    refine gx_lv (lv' := []) [] rfl ?_
    exact hk
set_option maxHeartbeats 4000000 in
set_option maxRecDepth 100000 in
theorem jc_law_196L43 {K : gx_K} {E : gx_E} {b L : Nat} {xs : Nat → Int32} {n k : Nat} (C : gx_C K E "CaseLayoutLaw" code 7) (hR : K.R = room_1) (hlt : K.l.stackTraces = false) (hX : va_X b L xs K.s K.s.heap) (hbl : b < K.s.heap.size) (hbA : ¬ gx_AB true E K.s.heap.size b) (hn : n + 4 ≤ 601024) (hk2 : k + 24 ≤ 7293000) (v4 : Int32) (v5 : Int32) (w0 : Int32) (w1 : Int32) (w2 : Int32) (x : gx_S) (o : (Int32 × gx_S) ⊕ (Nat × Int32 × gx_S)) (hf : j_law_196L43 L xs v4 v5 w0 w1 w2 x = some o) (hk : gx_or (pp_law_43 K E b (n + 4) (k + 24) ) (pq_law_43 K E b (n + 4) (k + 24) ) o) : gx_G K E (gx_AB true E K.s.heap.size) (n + 1) (k + 6) x 196 [(0, .ref b), (1, .ref (gx_ad E 28)), (2, .ref (gx_ad E 29)), (3, .ref (gx_ad E 48)), (4, .int v4), (5, .int v5)] [.int w0, .int w1, .int w2, .ref (gx_ad E 29)] := by
  unfold j_law_196L43 at hf
  obtain ⟨r15, x15, hc15, hf⟩ := gx_bd_some hf
  refine gx_cVi (n2 := n + 1) (k2 := k + 6) C (As := [.int w2, .int w1, .int w0]) (rest := []) 29 3 (c_CaseLayoutModel_wall K.l w2 w1 w0 x _ hc15) (Or.inl rfl) rfl (gx_goodV gw_763 gw_764 gw_765 gw_10 gw_766) (by decide +kernel) (gx_w29 E _) rfl (by rw [hR]; decide) rfl rfl (Nat.le_of_ble_eq_true rfl) d_Law_law_196 (by rw [hR]; exact ⟨(by show n + 1 + 0 ≤ 601024; omega), (by show k + 6 + 0 ≤ 7293000; omega)⟩) (show n + 1 + 0 = n + 1 by omega) (show k + 6 + 0 = k + 6 by omega) ?_
  refine gx_istore C (lv' := [(6, .int r15), (0, .ref b), (1, .ref (gx_ad E 28)), (2, .ref (gx_ad E 29)), (3, .ref (gx_ad E 48)), (4, .int v4), (5, .int v5)]) d_Law_law_199 (by decide) rfl ?_
  refine gx_aload_n C 3 d_Law_law_201 rfl rfl ?_
  obtain ⟨r16, x16, hc16, hf⟩ := gx_bd_some hf
  refine gx_cVi (n2 := n + 1) (k2 := k + 6) C (As := []) (rest := []) 29 0 (c_CaseLayoutModel_thrown K.l  x15 _ hc16) (Or.inl rfl) rfl (gx_goodV gw_759 gw_760 gw_761 gw_10 gw_762) (by decide +kernel) (gx_w29 E _) rfl (by rw [hR]; decide) rfl rfl (Nat.le_of_ble_eq_true rfl) d_Law_law_202 (by rw [hR]; exact ⟨(by show n + 1 + 0 ≤ 601024; omega), (by show k + 6 + 0 ≤ 7293000; omega)⟩) (show n + 1 + 0 = n + 1 by omega) (show k + 6 + 0 = k + 6 by omega) ?_
  refine gx_iload C 6 d_Law_law_205 rfl ?_
  refine gx_icmp_eq (tgt := 212) C d_Law_law_207 (by decide) (fun h17 => ?_) (fun h17 => ?_)
  · have hf := (if_pos h17).symm.trans hf
    refine gx_iload C 6 d_Law_law_212 rfl ?_
    refine gx_if_ne (tgt := 236) C d_Law_law_214 (by decide) (fun h18 => ?_) (fun h18 => ?_)
    · have hf := (if_neg h18).symm.trans hf
      refine gx_goto (tgt := 1203) C d_Law_law_236 (by decide) ?_
      refine gx_iinc C (v := v4 + 4) (lv' := [(4, .int (v4 + 4)), (6, .int r15), (0, .ref b), (1, .ref (gx_ad E 28)), (2, .ref (gx_ad E 29)), (3, .ref (gx_ad E 48)), (5, .int v5)]) 5 d_Law_law_1203 rfl rfl (by decide) rfl ?_
      refine gx_goto (tgt := 43) C d_Law_law_1206 (by decide) ?_
      cases hf
      refine gx_widen (n' := n + 4) (k' := k + 24) (by omega) (by omega) ?_
      refine gx_lv (lv' := [(0, .ref b), (1, .ref (gx_ad E 28)), (2, .ref (gx_ad E 29)), (3, .ref (gx_ad E 48)), (4, .int (v4 + 4))]) [2, 3, 4, 5, 0] rfl ?_
      exact hk
    · have hf := (if_pos h18).symm.trans hf
      refine gx_aload_n C 4 d_Law_law_217 rfl rfl ?_
      refine gx_iconst C (v := 0) d_Law_law_218 (by decide) ?_
      obtain ⟨hi19, hf⟩ := gx_ck_some hf
      refine gx_lald C 48 2 (gx_w48 E _) rfl hi19 d_Law_law_219 ?_
      refine gx_iload C 0 d_Law_law_220 rfl ?_
      refine gx_if_eq (tgt := 229) C d_Law_law_222 (by decide) (fun h20 => ?_) (fun h20 => ?_)
      · have hf := (if_pos h20).symm.trans hf
        refine gx_lconst C (v := 0) d_Law_law_229 (by decide) ?_
        refine gx_lv (lv' := [(0, .ref b), (1, .ref (gx_ad E 28)), (2, .ref (gx_ad E 29)), (3, .ref (gx_ad E 48)), (4, .int v4)]) [1, 2, 3, 4, 5] rfl ?_
        exact jc_law_230L43 C hR hlt hX hbl hbA hn hk2 v4 0 (gx_gL x16 (0 : Int32).toNatClampNeg) x16 _ hf hk
      · have hf := (if_neg h20).symm.trans hf
        refine gx_lconst C (v := 1) d_Law_law_225 (by decide) ?_
        refine gx_goto (tgt := 230) C d_Law_law_226 (by decide) ?_
        refine gx_lv (lv' := [(0, .ref b), (1, .ref (gx_ad E 28)), (2, .ref (gx_ad E 29)), (3, .ref (gx_ad E 48)), (4, .int v4)]) [1, 2, 3, 4, 5] rfl ?_
        exact jc_law_230L43 C hR hlt hX hbl hbA hn hk2 v4 1 (gx_gL x16 (0 : Int32).toNatClampNeg) x16 _ hf hk
  · have hf := (if_neg h17).symm.trans hf
    cases hf
    have hk : pq_law_43 K E b (n + 4) (k + 24)  _ := hk
    unfold pq_law_43 at hk
    refine gx_widen (n' := n + 4) (k' := k + 24) (by omega) (by omega) ?_
    have hk := gx_ifp (rfl : (0 : Nat) = 0) hk
    refine gx_lv (lv' := []) [] rfl ?_
    exact hk
set_option maxHeartbeats 4000000 in
set_option maxRecDepth 100000 in
theorem jc_law_163L43 {K : gx_K} {E : gx_E} {b L : Nat} {xs : Nat → Int32} {n k : Nat} (C : gx_C K E "CaseLayoutLaw" code 7) (hR : K.R = room_1) (hlt : K.l.stackTraces = false) (hX : va_X b L xs K.s K.s.heap) (hbl : b < K.s.heap.size) (hbA : ¬ gx_AB true E K.s.heap.size b) (hn : n + 4 ≤ 601024) (hk2 : k + 24 ≤ 7293000) (v4 : Int32) (w0 : Int32) (w1 : Int32) (w2 : Int32) (x : gx_S) (o : (Int32 × gx_S) ⊕ (Nat × Int32 × gx_S)) (hf : j_law_163L43 L xs v4 w0 w1 w2 x = some o) (hk : gx_or (pp_law_43 K E b (n + 4) (k + 24) ) (pq_law_43 K E b (n + 4) (k + 24) ) o) : gx_G K E (gx_AB true E K.s.heap.size) (n + 0) (k + 0) x 163 [(0, .ref b), (1, .ref (gx_ad E 28)), (2, .ref (gx_ad E 29)), (3, .ref (gx_ad E 48)), (4, .int v4)] [.int w0, .int w1, .int w2, .ref (gx_ad E 28)] := by
  unfold j_law_163L43 at hf
  refine gx_aload_n C 3 d_Law_law_163 rfl rfl ?_
  obtain ⟨r10, x10, hc10, hf⟩ := gx_bd_some hf
  refine gx_cSWi (n2 := n + 1) (k2 := k + 6) C (As := [.ref (gx_ad E 28), .int w2, .int w1, .int w0, .ref (gx_ad E 48)]) (rest := []) 5 (c_CaseLayoutLaw_wall K.l hlt w2 w1 w0 x _ hc10) (Or.inl rfl) rfl gw_276 gw_277 gw_0 gw_278 (by decide +kernel) (by rw [hR]; decide) rfl rfl (Nat.le_of_ble_eq_true rfl) d_Law_law_164 (by rw [hR]; exact ⟨(by show n + 0 + 1 ≤ 601024; omega), (by show k + 0 + 6 ≤ 7293000; omega)⟩) (show n + 0 + 1 = n + 1 by omega) (show k + 0 + 6 = k + 6 by omega) ?_
  refine gx_istore C (lv' := [(5, .int r10), (0, .ref b), (1, .ref (gx_ad E 28)), (2, .ref (gx_ad E 29)), (3, .ref (gx_ad E 48)), (4, .int v4)]) d_Law_law_167 (by decide) rfl ?_
  refine gx_aload_n C 3 d_Law_law_169 rfl rfl ?_
  refine gx_aload_n C 1 d_Law_law_170 rfl rfl ?_
  refine gx_iload C 5 d_Law_law_171 rfl ?_
  refine gx_iconst C (v := 1) d_Law_law_173 (by decide) ?_
  refine gx_iadd C d_Law_law_174 ?_
  obtain ⟨hi11, hf⟩ := gx_ck_some hf
  refine gx_sld C hX hbl hbA hi11 d_Law_law_175 ?_
  refine gx_aload_n C 1 d_Law_law_176 rfl rfl ?_
  refine gx_iload C 5 d_Law_law_177 rfl ?_
  refine gx_iconst C (v := 2) d_Law_law_179 (by decide) ?_
  refine gx_iadd C d_Law_law_180 ?_
  obtain ⟨hi12, hf⟩ := gx_ck_some hf
  refine gx_sld C hX hbl hbA hi12 d_Law_law_181 ?_
  refine gx_aload_n C 1 d_Law_law_182 rfl rfl ?_
  refine gx_iload C 5 d_Law_law_183 rfl ?_
  refine gx_iconst C (v := 3) d_Law_law_185 (by decide) ?_
  refine gx_iadd C d_Law_law_186 ?_
  obtain ⟨hi13, hf⟩ := gx_ck_some hf
  refine gx_sld C hX hbl hbA hi13 d_Law_law_187 ?_
  refine gx_if_eq (tgt := 195) C d_Law_law_188 (by decide) (fun h14 => ?_) (fun h14 => ?_)
  · have hf := (if_pos h14).symm.trans hf
    refine gx_iconst C (v := 0) d_Law_law_195 (by decide) ?_
    refine gx_lv (lv' := [(0, .ref b), (1, .ref (gx_ad E 28)), (2, .ref (gx_ad E 29)), (3, .ref (gx_ad E 48)), (4, .int v4), (5, .int r10)]) [1, 2, 3, 4, 5, 0] rfl ?_
    exact jc_law_196L43 C hR hlt hX hbl hbA hn hk2 v4 r10 0 (xs (v4 + 2 : Int32).toNatClampNeg) (xs (v4 + 1 : Int32).toNatClampNeg) x10 _ hf hk
  · have hf := (if_neg h14).symm.trans hf
    refine gx_iconst C (v := 1) d_Law_law_191 (by decide) ?_
    refine gx_goto (tgt := 196) C d_Law_law_192 (by decide) ?_
    refine gx_lv (lv' := [(0, .ref b), (1, .ref (gx_ad E 28)), (2, .ref (gx_ad E 29)), (3, .ref (gx_ad E 48)), (4, .int v4), (5, .int r10)]) [1, 2, 3, 4, 5, 0] rfl ?_
    exact jc_law_196L43 C hR hlt hX hbl hbA hn hk2 v4 r10 1 (xs (v4 + 2 : Int32).toNatClampNeg) (xs (v4 + 1 : Int32).toNatClampNeg) x10 _ hf hk
set_option maxHeartbeats 4000000 in
set_option maxRecDepth 100000 in
theorem jc_law_721L43 {K : gx_K} {E : gx_E} {b L : Nat} {xs : Nat → Int32} {n k : Nat} (C : gx_C K E "CaseLayoutLaw" code 7) (hR : K.R = room_1) (hlt : K.l.stackTraces = false) (hX : va_X b L xs K.s K.s.heap) (hbl : b < K.s.heap.size) (hbA : ¬ gx_AB true E K.s.heap.size b) (hn : n + 4 ≤ 601024) (hk2 : k + 24 ≤ 7293000) (v4 : Int32) (w0 : Int64) (w1 : Int64) (x : gx_S) (o : (Int32 × gx_S) ⊕ (Nat × Int32 × gx_S)) (hf : j_law_721L43 L xs v4 w0 w1 x = some o) (hk : gx_or (pp_law_43 K E b (n + 4) (k + 24) ) (pq_law_43 K E b (n + 4) (k + 24) ) o) : gx_G K E (gx_AB true E K.s.heap.size) (n + 2) (k + 12) x 721 [(0, .ref b), (1, .ref (gx_ad E 28)), (2, .ref (gx_ad E 29)), (3, .ref (gx_ad E 48)), (4, .int v4)] [.long w0, .long w1] := by
  unfold j_law_721L43 at hf
  refine gx_lcmp C d_Law_law_721 ?_
  refine gx_if_eq (tgt := 727) C d_Law_law_722 (by decide) (fun h106 => ?_) (fun h106 => ?_)
  · have hf := (if_pos h106).symm.trans hf
    refine gx_goto (tgt := 1203) C d_Law_law_727 (by decide) ?_
    refine gx_iinc C (v := v4 + 4) (lv' := [(4, .int (v4 + 4)), (0, .ref b), (1, .ref (gx_ad E 28)), (2, .ref (gx_ad E 29)), (3, .ref (gx_ad E 48))]) 4 d_Law_law_1203 rfl rfl (by decide) rfl ?_
    refine gx_goto (tgt := 43) C d_Law_law_1206 (by decide) ?_
    cases hf
    refine gx_widen (n' := n + 4) (k' := k + 24) (by omega) (by omega) ?_
    refine gx_lv (lv' := [(0, .ref b), (1, .ref (gx_ad E 28)), (2, .ref (gx_ad E 29)), (3, .ref (gx_ad E 48)), (4, .int (v4 + 4))]) [1, 2, 3, 4, 0] rfl ?_
    exact hk
  · have hf := (if_neg h106).symm.trans hf
    cases hf
    have hk : pq_law_43 K E b (n + 4) (k + 24)  _ := hk
    unfold pq_law_43 at hk
    have hk := gx_ifn (by decide : ¬ ((13 : Nat) = 0)) hk
    have hk := gx_ifn (by decide : ¬ ((13 : Nat) = 1)) hk
    have hk := gx_ifn (by decide : ¬ ((13 : Nat) = 2)) hk
    have hk := gx_ifn (by decide : ¬ ((13 : Nat) = 3)) hk
    have hk := gx_ifn (by decide : ¬ ((13 : Nat) = 4)) hk
    have hk := gx_ifn (by decide : ¬ ((13 : Nat) = 5)) hk
    have hk := gx_ifn (by decide : ¬ ((13 : Nat) = 6)) hk
    have hk := gx_ifn (by decide : ¬ ((13 : Nat) = 7)) hk
    have hk := gx_ifn (by decide : ¬ ((13 : Nat) = 8)) hk
    have hk := gx_ifn (by decide : ¬ ((13 : Nat) = 9)) hk
    have hk := gx_ifn (by decide : ¬ ((13 : Nat) = 10)) hk
    have hk := gx_ifn (by decide : ¬ ((13 : Nat) = 11)) hk
    have hk := gx_ifn (by decide : ¬ ((13 : Nat) = 12)) hk
    refine gx_widen (n' := n + 4) (k' := k + 24) (by omega) (by omega) ?_
    have hk := gx_ifp (rfl : (13 : Nat) = 13) hk
    refine gx_lv (lv' := []) [] rfl ?_
    exact hk
set_option maxHeartbeats 4000000 in
set_option maxRecDepth 100000 in
theorem jc_law_687L43 {K : gx_K} {E : gx_E} {b L : Nat} {xs : Nat → Int32} {n k : Nat} (C : gx_C K E "CaseLayoutLaw" code 7) (hR : K.R = room_1) (hlt : K.l.stackTraces = false) (hX : va_X b L xs K.s K.s.heap) (hbl : b < K.s.heap.size) (hbA : ¬ gx_AB true E K.s.heap.size b) (hn : n + 4 ≤ 601024) (hk2 : k + 24 ≤ 7293000) (v4 : Int32) (v5 : Int32) (w0 : Int32) (w1 : Int32) (w2 : Int32) (x : gx_S) (o : (Int32 × gx_S) ⊕ (Nat × Int32 × gx_S)) (hf : j_law_687L43 L xs v4 v5 w0 w1 w2 x = some o) (hk : gx_or (pp_law_43 K E b (n + 4) (k + 24) ) (pq_law_43 K E b (n + 4) (k + 24) ) o) : gx_G K E (gx_AB true E K.s.heap.size) (n + 2) (k + 12) x 687 [(0, .ref b), (1, .ref (gx_ad E 28)), (2, .ref (gx_ad E 29)), (3, .ref (gx_ad E 48)), (4, .int v4), (5, .int v5)] [.int w0, .int w1, .int w2, .ref (gx_ad E 29)] := by
  unfold j_law_687L43 at hf
  obtain ⟨r100, x100, hc100, hf⟩ := gx_bd_some hf
  refine gx_cVi (n2 := n + 2) (k2 := k + 12) C (As := [.int w2, .int w1, .int w0]) (rest := []) 29 3 (c_CaseLayoutModel_sees K.l w2 w1 w0 x _ hc100) (Or.inl rfl) rfl (gx_goodV gw_814 gw_815 gw_816 gw_10 gw_817) (by decide +kernel) (gx_w29 E _) rfl (by rw [hR]; decide) rfl rfl (Nat.le_of_ble_eq_true rfl) d_Law_law_687 (by rw [hR]; exact ⟨(by show n + 2 + 0 ≤ 601024; omega), (by show k + 12 + 0 ≤ 7293000; omega)⟩) (show n + 2 + 0 = n + 2 by omega) (show k + 12 + 0 = k + 12 by omega) ?_
  refine gx_istore C (lv' := [(6, .int r100), (0, .ref b), (1, .ref (gx_ad E 28)), (2, .ref (gx_ad E 29)), (3, .ref (gx_ad E 48)), (4, .int v4), (5, .int v5)]) d_Law_law_690 (by decide) rfl ?_
  refine gx_aload_n C 3 d_Law_law_692 rfl rfl ?_
  obtain ⟨r101, x101, hc101, hf⟩ := gx_bd_some hf
  refine gx_cVi (n2 := n + 2) (k2 := k + 12) C (As := []) (rest := []) 29 0 (c_CaseLayoutModel_thrown K.l  x100 _ hc101) (Or.inl rfl) rfl (gx_goodV gw_759 gw_760 gw_761 gw_10 gw_762) (by decide +kernel) (gx_w29 E _) rfl (by rw [hR]; decide) rfl rfl (Nat.le_of_ble_eq_true rfl) d_Law_law_693 (by rw [hR]; exact ⟨(by show n + 2 + 0 ≤ 601024; omega), (by show k + 12 + 0 ≤ 7293000; omega)⟩) (show n + 2 + 0 = n + 2 by omega) (show k + 12 + 0 = k + 12 by omega) ?_
  refine gx_iload C 6 d_Law_law_696 rfl ?_
  refine gx_icmp_eq (tgt := 703) C d_Law_law_698 (by decide) (fun h102 => ?_) (fun h102 => ?_)
  · have hf := (if_pos h102).symm.trans hf
    refine gx_iload C 6 d_Law_law_703 rfl ?_
    refine gx_if_ne (tgt := 727) C d_Law_law_705 (by decide) (fun h103 => ?_) (fun h103 => ?_)
    · have hf := (if_neg h103).symm.trans hf
      refine gx_goto (tgt := 1203) C d_Law_law_727 (by decide) ?_
      refine gx_iinc C (v := v4 + 4) (lv' := [(4, .int (v4 + 4)), (6, .int r100), (0, .ref b), (1, .ref (gx_ad E 28)), (2, .ref (gx_ad E 29)), (3, .ref (gx_ad E 48)), (5, .int v5)]) 5 d_Law_law_1203 rfl rfl (by decide) rfl ?_
      refine gx_goto (tgt := 43) C d_Law_law_1206 (by decide) ?_
      cases hf
      refine gx_widen (n' := n + 4) (k' := k + 24) (by omega) (by omega) ?_
      refine gx_lv (lv' := [(0, .ref b), (1, .ref (gx_ad E 28)), (2, .ref (gx_ad E 29)), (3, .ref (gx_ad E 48)), (4, .int (v4 + 4))]) [2, 3, 4, 5, 0] rfl ?_
      exact hk
    · have hf := (if_pos h103).symm.trans hf
      refine gx_aload_n C 4 d_Law_law_708 rfl rfl ?_
      refine gx_iconst C (v := 0) d_Law_law_709 (by decide) ?_
      obtain ⟨hi104, hf⟩ := gx_ck_some hf
      refine gx_lald C 48 2 (gx_w48 E _) rfl hi104 d_Law_law_710 ?_
      refine gx_iload C 0 d_Law_law_711 rfl ?_
      refine gx_if_eq (tgt := 720) C d_Law_law_713 (by decide) (fun h105 => ?_) (fun h105 => ?_)
      · have hf := (if_pos h105).symm.trans hf
        refine gx_lconst C (v := 0) d_Law_law_720 (by decide) ?_
        refine gx_lv (lv' := [(0, .ref b), (1, .ref (gx_ad E 28)), (2, .ref (gx_ad E 29)), (3, .ref (gx_ad E 48)), (4, .int v4)]) [1, 2, 3, 4, 5] rfl ?_
        exact jc_law_721L43 C hR hlt hX hbl hbA hn hk2 v4 0 (gx_gL x101 (0 : Int32).toNatClampNeg) x101 _ hf hk
      · have hf := (if_neg h105).symm.trans hf
        refine gx_lconst C (v := 1) d_Law_law_716 (by decide) ?_
        refine gx_goto (tgt := 721) C d_Law_law_717 (by decide) ?_
        refine gx_lv (lv' := [(0, .ref b), (1, .ref (gx_ad E 28)), (2, .ref (gx_ad E 29)), (3, .ref (gx_ad E 48)), (4, .int v4)]) [1, 2, 3, 4, 5] rfl ?_
        exact jc_law_721L43 C hR hlt hX hbl hbA hn hk2 v4 1 (gx_gL x101 (0 : Int32).toNatClampNeg) x101 _ hf hk
  · have hf := (if_neg h102).symm.trans hf
    cases hf
    have hk : pq_law_43 K E b (n + 4) (k + 24)  _ := hk
    unfold pq_law_43 at hk
    have hk := gx_ifn (by decide : ¬ ((12 : Nat) = 0)) hk
    have hk := gx_ifn (by decide : ¬ ((12 : Nat) = 1)) hk
    have hk := gx_ifn (by decide : ¬ ((12 : Nat) = 2)) hk
    have hk := gx_ifn (by decide : ¬ ((12 : Nat) = 3)) hk
    have hk := gx_ifn (by decide : ¬ ((12 : Nat) = 4)) hk
    have hk := gx_ifn (by decide : ¬ ((12 : Nat) = 5)) hk
    have hk := gx_ifn (by decide : ¬ ((12 : Nat) = 6)) hk
    have hk := gx_ifn (by decide : ¬ ((12 : Nat) = 7)) hk
    have hk := gx_ifn (by decide : ¬ ((12 : Nat) = 8)) hk
    have hk := gx_ifn (by decide : ¬ ((12 : Nat) = 9)) hk
    have hk := gx_ifn (by decide : ¬ ((12 : Nat) = 10)) hk
    have hk := gx_ifn (by decide : ¬ ((12 : Nat) = 11)) hk
    refine gx_widen (n' := n + 4) (k' := k + 24) (by omega) (by omega) ?_
    have hk := gx_ifp (rfl : (12 : Nat) = 12) hk
    refine gx_lv (lv' := []) [] rfl ?_
    exact hk
set_option maxHeartbeats 4000000 in
set_option maxRecDepth 100000 in
theorem jc_law_654L43 {K : gx_K} {E : gx_E} {b L : Nat} {xs : Nat → Int32} {n k : Nat} (C : gx_C K E "CaseLayoutLaw" code 7) (hR : K.R = room_1) (hlt : K.l.stackTraces = false) (hX : va_X b L xs K.s K.s.heap) (hbl : b < K.s.heap.size) (hbA : ¬ gx_AB true E K.s.heap.size b) (hn : n + 4 ≤ 601024) (hk2 : k + 24 ≤ 7293000) (v4 : Int32) (w0 : Int32) (w1 : Int32) (w2 : Int32) (x : gx_S) (o : (Int32 × gx_S) ⊕ (Nat × Int32 × gx_S)) (hf : j_law_654L43 L xs v4 w0 w1 w2 x = some o) (hk : gx_or (pp_law_43 K E b (n + 4) (k + 24) ) (pq_law_43 K E b (n + 4) (k + 24) ) o) : gx_G K E (gx_AB true E K.s.heap.size) (n + 0) (k + 0) x 654 [(0, .ref b), (1, .ref (gx_ad E 28)), (2, .ref (gx_ad E 29)), (3, .ref (gx_ad E 48)), (4, .int v4)] [.int w0, .int w1, .int w2, .ref (gx_ad E 28)] := by
  unfold j_law_654L43 at hf
  refine gx_aload_n C 3 d_Law_law_654 rfl rfl ?_
  obtain ⟨r95, x95, hc95, hf⟩ := gx_bd_some hf
  refine gx_cSWi (n2 := n + 2) (k2 := k + 12) C (As := [.ref (gx_ad E 28), .int w2, .int w1, .int w0, .ref (gx_ad E 48)]) (rest := []) 5 (c_CaseLayoutLaw_sees K.l hlt w2 w1 w0 x _ hc95) (Or.inl rfl) rfl gw_478 gw_479 gw_0 gw_480 (by decide +kernel) (by rw [hR]; decide) rfl rfl (Nat.le_of_ble_eq_true rfl) d_Law_law_655 (by rw [hR]; exact ⟨(by show n + 0 + 2 ≤ 601024; omega), (by show k + 0 + 12 ≤ 7293000; omega)⟩) (show n + 0 + 2 = n + 2 by omega) (show k + 0 + 12 = k + 12 by omega) ?_
  refine gx_istore C (lv' := [(5, .int r95), (0, .ref b), (1, .ref (gx_ad E 28)), (2, .ref (gx_ad E 29)), (3, .ref (gx_ad E 48)), (4, .int v4)]) d_Law_law_658 (by decide) rfl ?_
  refine gx_aload_n C 3 d_Law_law_660 rfl rfl ?_
  refine gx_aload_n C 1 d_Law_law_661 rfl rfl ?_
  refine gx_iload C 5 d_Law_law_662 rfl ?_
  refine gx_iconst C (v := 1) d_Law_law_664 (by decide) ?_
  refine gx_iadd C d_Law_law_665 ?_
  obtain ⟨hi96, hf⟩ := gx_ck_some hf
  refine gx_sld C hX hbl hbA hi96 d_Law_law_666 ?_
  refine gx_aload_n C 1 d_Law_law_667 rfl rfl ?_
  refine gx_iload C 5 d_Law_law_668 rfl ?_
  refine gx_iconst C (v := 2) d_Law_law_670 (by decide) ?_
  refine gx_iadd C d_Law_law_671 ?_
  obtain ⟨hi97, hf⟩ := gx_ck_some hf
  refine gx_sld C hX hbl hbA hi97 d_Law_law_672 ?_
  refine gx_aload_n C 1 d_Law_law_673 rfl rfl ?_
  refine gx_iload C 5 d_Law_law_674 rfl ?_
  refine gx_iconst C (v := 3) d_Law_law_676 (by decide) ?_
  refine gx_iadd C d_Law_law_677 ?_
  obtain ⟨hi98, hf⟩ := gx_ck_some hf
  refine gx_sld C hX hbl hbA hi98 d_Law_law_678 ?_
  refine gx_if_eq (tgt := 686) C d_Law_law_679 (by decide) (fun h99 => ?_) (fun h99 => ?_)
  · have hf := (if_pos h99).symm.trans hf
    refine gx_iconst C (v := 0) d_Law_law_686 (by decide) ?_
    refine gx_lv (lv' := [(0, .ref b), (1, .ref (gx_ad E 28)), (2, .ref (gx_ad E 29)), (3, .ref (gx_ad E 48)), (4, .int v4), (5, .int r95)]) [1, 2, 3, 4, 5, 0] rfl ?_
    exact jc_law_687L43 C hR hlt hX hbl hbA hn hk2 v4 r95 0 (xs (v4 + 2 : Int32).toNatClampNeg) (xs (v4 + 1 : Int32).toNatClampNeg) x95 _ hf hk
  · have hf := (if_neg h99).symm.trans hf
    refine gx_iconst C (v := 1) d_Law_law_682 (by decide) ?_
    refine gx_goto (tgt := 687) C d_Law_law_683 (by decide) ?_
    refine gx_lv (lv' := [(0, .ref b), (1, .ref (gx_ad E 28)), (2, .ref (gx_ad E 29)), (3, .ref (gx_ad E 48)), (4, .int v4), (5, .int r95)]) [1, 2, 3, 4, 5, 0] rfl ?_
    exact jc_law_687L43 C hR hlt hX hbl hbA hn hk2 v4 r95 1 (xs (v4 + 2 : Int32).toNatClampNeg) (xs (v4 + 1 : Int32).toNatClampNeg) x95 _ hf hk
set_option maxHeartbeats 4000000 in
set_option maxRecDepth 100000 in
theorem jc_law_1070L43 {K : gx_K} {E : gx_E} {b L : Nat} {xs : Nat → Int32} {n k : Nat} (C : gx_C K E "CaseLayoutLaw" code 7) (hR : K.R = room_1) (hlt : K.l.stackTraces = false) (hX : va_X b L xs K.s K.s.heap) (hbl : b < K.s.heap.size) (hbA : ¬ gx_AB true E K.s.heap.size b) (hn : n + 4 ≤ 601024) (hk2 : k + 24 ≤ 7293000) (v4 : Int32) (w0 : Int64) (w1 : Int64) (x : gx_S) (o : (Int32 × gx_S) ⊕ (Nat × Int32 × gx_S)) (hf : j_law_1070L43 L xs v4 w0 w1 x = some o) (hk : gx_or (pp_law_43 K E b (n + 4) (k + 24) ) (pq_law_43 K E b (n + 4) (k + 24) ) o) : gx_G K E (gx_AB true E K.s.heap.size) (n + 3) (k + 18) x 1070 [(0, .ref b), (1, .ref (gx_ad E 28)), (2, .ref (gx_ad E 29)), (3, .ref (gx_ad E 48)), (4, .int v4)] [.long w0, .long w1] := by
  unfold j_law_1070L43 at hf
  refine gx_lcmp C d_Law_law_1070 ?_
  refine gx_if_eq (tgt := 1076) C d_Law_law_1071 (by decide) (fun h171 => ?_) (fun h171 => ?_)
  · have hf := (if_pos h171).symm.trans hf
    refine gx_goto (tgt := 1203) C d_Law_law_1076 (by decide) ?_
    refine gx_iinc C (v := v4 + 4) (lv' := [(4, .int (v4 + 4)), (0, .ref b), (1, .ref (gx_ad E 28)), (2, .ref (gx_ad E 29)), (3, .ref (gx_ad E 48))]) 4 d_Law_law_1203 rfl rfl (by decide) rfl ?_
    refine gx_goto (tgt := 43) C d_Law_law_1206 (by decide) ?_
    cases hf
    refine gx_widen (n' := n + 4) (k' := k + 24) (by omega) (by omega) ?_
    refine gx_lv (lv' := [(0, .ref b), (1, .ref (gx_ad E 28)), (2, .ref (gx_ad E 29)), (3, .ref (gx_ad E 48)), (4, .int (v4 + 4))]) [1, 2, 3, 4, 0] rfl ?_
    exact hk
  · have hf := (if_neg h171).symm.trans hf
    cases hf
    have hk : pq_law_43 K E b (n + 4) (k + 24)  _ := hk
    unfold pq_law_43 at hk
    have hk := gx_ifn (by decide : ¬ ((25 : Nat) = 0)) hk
    have hk := gx_ifn (by decide : ¬ ((25 : Nat) = 1)) hk
    have hk := gx_ifn (by decide : ¬ ((25 : Nat) = 2)) hk
    have hk := gx_ifn (by decide : ¬ ((25 : Nat) = 3)) hk
    have hk := gx_ifn (by decide : ¬ ((25 : Nat) = 4)) hk
    have hk := gx_ifn (by decide : ¬ ((25 : Nat) = 5)) hk
    have hk := gx_ifn (by decide : ¬ ((25 : Nat) = 6)) hk
    have hk := gx_ifn (by decide : ¬ ((25 : Nat) = 7)) hk
    have hk := gx_ifn (by decide : ¬ ((25 : Nat) = 8)) hk
    have hk := gx_ifn (by decide : ¬ ((25 : Nat) = 9)) hk
    have hk := gx_ifn (by decide : ¬ ((25 : Nat) = 10)) hk
    have hk := gx_ifn (by decide : ¬ ((25 : Nat) = 11)) hk
    have hk := gx_ifn (by decide : ¬ ((25 : Nat) = 12)) hk
    have hk := gx_ifn (by decide : ¬ ((25 : Nat) = 13)) hk
    have hk := gx_ifn (by decide : ¬ ((25 : Nat) = 14)) hk
    have hk := gx_ifn (by decide : ¬ ((25 : Nat) = 15)) hk
    have hk := gx_ifn (by decide : ¬ ((25 : Nat) = 16)) hk
    have hk := gx_ifn (by decide : ¬ ((25 : Nat) = 17)) hk
    have hk := gx_ifn (by decide : ¬ ((25 : Nat) = 18)) hk
    have hk := gx_ifn (by decide : ¬ ((25 : Nat) = 19)) hk
    have hk := gx_ifn (by decide : ¬ ((25 : Nat) = 20)) hk
    have hk := gx_ifn (by decide : ¬ ((25 : Nat) = 21)) hk
    have hk := gx_ifn (by decide : ¬ ((25 : Nat) = 22)) hk
    have hk := gx_ifn (by decide : ¬ ((25 : Nat) = 23)) hk
    have hk := gx_ifn (by decide : ¬ ((25 : Nat) = 24)) hk
    refine gx_widen (n' := n + 4) (k' := k + 24) (by omega) (by omega) ?_
    have hk := gx_ifp (rfl : (25 : Nat) = 25) hk
    refine gx_lv (lv' := []) [] rfl ?_
    exact hk
set_option maxHeartbeats 4000000 in
set_option maxRecDepth 100000 in
theorem sc_law_43 {K : gx_K} {E : gx_E} {b L : Nat} {xs : Nat → Int32} {n k : Nat} (C : gx_C K E "CaseLayoutLaw" code 7) (hR : K.R = room_1) (hlt : K.l.stackTraces = false) (hX : va_X b L xs K.s K.s.heap) (hbl : b < K.s.heap.size) (hbA : ¬ gx_AB true E K.s.heap.size b) (hn : n + 4 ≤ 601024) (hk2 : k + 24 ≤ 7293000)  (a : Int32 × gx_S) (o : (Int32 × gx_S) ⊕ (Nat × Int32 × gx_S)) (hf : s_law_43 L xs  a = some o) (hk : gx_or (pp_law_43 K E b (n + 4) (k + 24) ) (pq_law_43 K E b (n + 4) (k + 24) ) o) : pp_law_43 K E b n k  a := by
  unfold s_law_43 at hf
  unfold pp_law_43
  refine (?_ : gx_G K E (gx_AB true E K.s.heap.size) (n + 0) (k + 0) _ _ _ _)
  refine gx_iload C 4 d_Law_law_43 rfl ?_
  refine gx_aload_n C 0 d_Law_law_45 rfl rfl ?_
  refine gx_slen C hX hbl hbA d_Law_law_46 ?_
  refine gx_iconst C (v := 4) d_Law_law_47 (by decide) ?_
  refine gx_isub C d_Law_law_48 ?_
  refine gx_icmp_gt (tgt := 1209) C d_Law_law_49 (by decide) (fun h1 => ?_) (fun h1 => ?_)
  · have hf := (if_pos h1).symm.trans hf
    cases hf
    have hk : pq_law_43 K E b (n + 4) (k + 24)  _ := hk
    unfold pq_law_43 at hk
    have hk := gx_ifn (by decide : ¬ ((30 : Nat) = 0)) hk
    have hk := gx_ifn (by decide : ¬ ((30 : Nat) = 1)) hk
    have hk := gx_ifn (by decide : ¬ ((30 : Nat) = 2)) hk
    have hk := gx_ifn (by decide : ¬ ((30 : Nat) = 3)) hk
    have hk := gx_ifn (by decide : ¬ ((30 : Nat) = 4)) hk
    have hk := gx_ifn (by decide : ¬ ((30 : Nat) = 5)) hk
    have hk := gx_ifn (by decide : ¬ ((30 : Nat) = 6)) hk
    have hk := gx_ifn (by decide : ¬ ((30 : Nat) = 7)) hk
    have hk := gx_ifn (by decide : ¬ ((30 : Nat) = 8)) hk
    have hk := gx_ifn (by decide : ¬ ((30 : Nat) = 9)) hk
    have hk := gx_ifn (by decide : ¬ ((30 : Nat) = 10)) hk
    have hk := gx_ifn (by decide : ¬ ((30 : Nat) = 11)) hk
    have hk := gx_ifn (by decide : ¬ ((30 : Nat) = 12)) hk
    have hk := gx_ifn (by decide : ¬ ((30 : Nat) = 13)) hk
    have hk := gx_ifn (by decide : ¬ ((30 : Nat) = 14)) hk
    have hk := gx_ifn (by decide : ¬ ((30 : Nat) = 15)) hk
    have hk := gx_ifn (by decide : ¬ ((30 : Nat) = 16)) hk
    have hk := gx_ifn (by decide : ¬ ((30 : Nat) = 17)) hk
    have hk := gx_ifn (by decide : ¬ ((30 : Nat) = 18)) hk
    have hk := gx_ifn (by decide : ¬ ((30 : Nat) = 19)) hk
    have hk := gx_ifn (by decide : ¬ ((30 : Nat) = 20)) hk
    have hk := gx_ifn (by decide : ¬ ((30 : Nat) = 21)) hk
    have hk := gx_ifn (by decide : ¬ ((30 : Nat) = 22)) hk
    have hk := gx_ifn (by decide : ¬ ((30 : Nat) = 23)) hk
    have hk := gx_ifn (by decide : ¬ ((30 : Nat) = 24)) hk
    have hk := gx_ifn (by decide : ¬ ((30 : Nat) = 25)) hk
    have hk := gx_ifn (by decide : ¬ ((30 : Nat) = 26)) hk
    have hk := gx_ifn (by decide : ¬ ((30 : Nat) = 27)) hk
    have hk := gx_ifn (by decide : ¬ ((30 : Nat) = 28)) hk
    have hk := gx_ifn (by decide : ¬ ((30 : Nat) = 29)) hk
    refine gx_widen (n' := n + 4) (k' := k + 24) (by omega) (by omega) ?_
    refine gx_lv (lv' := []) [] rfl ?_
    exact hk
  · have hf := (if_neg h1).symm.trans hf
    refine gx_aload_n C 0 d_Law_law_52 rfl rfl ?_
    refine gx_iload C 4 d_Law_law_53 rfl ?_
    obtain ⟨hi2, hf⟩ := gx_ck_some hf
    refine gx_sld C hX hbl hbA hi2 d_Law_law_55 ?_
    refine gx_bipush C (v := 15) d_Law_law_56 (by decide) ?_
    refine gx_iand C d_Law_law_58 ?_
    by_cases h3 : ((xs (a.1 : Int32).toNatClampNeg) &&& 15) < 0
    · have hf := (if_pos h3).symm.trans hf
      refine gx_tabOut (tgt := 1203) C d_Law_law_59 (Or.inl (gx_tlt h3)) (by decide) ?_
      refine gx_iinc C (v := a.1 + 4) (lv' := [(4, .int (a.1 + 4)), (0, .ref b), (1, .ref (gx_ad E 28)), (2, .ref (gx_ad E 29)), (3, .ref (gx_ad E 48))]) 4 d_Law_law_1203 rfl rfl (by decide) rfl ?_
      refine gx_goto (tgt := 43) C d_Law_law_1206 (by decide) ?_
      cases hf
      refine gx_widen (n' := n + 4) (k' := k + 24) (by omega) (by omega) ?_
      refine gx_lv (lv' := [(0, .ref b), (1, .ref (gx_ad E 28)), (2, .ref (gx_ad E 29)), (3, .ref (gx_ad E 48)), (4, .int (a.1 + 4))]) [1, 2, 3, 4, 0] rfl ?_
      exact hk
    · have hf := (if_neg h3).symm.trans hf
      by_cases h4 : 15 < ((xs (a.1 : Int32).toNatClampNeg) &&& 15)
      · have hf := (if_pos h4).symm.trans hf
        refine gx_tabOut (tgt := 1203) C d_Law_law_59 (Or.inr (gx_tgt (a := 15) (by decide) h4)) (by decide) ?_
        refine gx_iinc C (v := a.1 + 4) (lv' := [(4, .int (a.1 + 4)), (0, .ref b), (1, .ref (gx_ad E 28)), (2, .ref (gx_ad E 29)), (3, .ref (gx_ad E 48))]) 4 d_Law_law_1203 rfl rfl (by decide) rfl ?_
        refine gx_goto (tgt := 43) C d_Law_law_1206 (by decide) ?_
        cases hf
        refine gx_widen (n' := n + 4) (k' := k + 24) (by omega) (by omega) ?_
        refine gx_lv (lv' := [(0, .ref b), (1, .ref (gx_ad E 28)), (2, .ref (gx_ad E 29)), (3, .ref (gx_ad E 48)), (4, .int (a.1 + 4))]) [1, 2, 3, 4, 0] rfl ?_
        exact hk
      · have hf := (if_neg h4).symm.trans hf
        by_cases h5 : ((xs (a.1 : Int32).toNatClampNeg) &&& 15) = 0
        · have hf := (if_pos h5).symm.trans hf
          refine gx_tabIn (tgt := 136) (off := 77) C d_Law_law_59 (gx_tnl h3) (gx_tng (a := 15) (by decide) h4) (by rw [h5]; rfl) (by decide) ?_
          refine gx_aload_n C 1 d_Law_law_136 rfl rfl ?_
          refine gx_aload_n C 0 d_Law_law_137 rfl rfl ?_
          refine gx_iload C 4 d_Law_law_138 rfl ?_
          refine gx_iconst C (v := 1) d_Law_law_140 (by decide) ?_
          refine gx_iadd C d_Law_law_141 ?_
          obtain ⟨hi6, hf⟩ := gx_ck_some hf
          refine gx_sld C hX hbl hbA hi6 d_Law_law_142 ?_
          refine gx_aload_n C 0 d_Law_law_143 rfl rfl ?_
          refine gx_iload C 4 d_Law_law_144 rfl ?_
          refine gx_iconst C (v := 2) d_Law_law_146 (by decide) ?_
          refine gx_iadd C d_Law_law_147 ?_
          obtain ⟨hi7, hf⟩ := gx_ck_some hf
          refine gx_sld C hX hbl hbA hi7 d_Law_law_148 ?_
          refine gx_aload_n C 0 d_Law_law_149 rfl rfl ?_
          refine gx_iload C 4 d_Law_law_150 rfl ?_
          refine gx_iconst C (v := 3) d_Law_law_152 (by decide) ?_
          refine gx_iadd C d_Law_law_153 ?_
          obtain ⟨hi8, hf⟩ := gx_ck_some hf
          refine gx_sld C hX hbl hbA hi8 d_Law_law_154 ?_
          refine gx_if_eq (tgt := 162) C d_Law_law_155 (by decide) (fun h9 => ?_) (fun h9 => ?_)
          · have hf := (if_pos h9).symm.trans hf
            refine gx_iconst C (v := 0) d_Law_law_162 (by decide) ?_
            exact jc_law_163L43 C hR hlt hX hbl hbA hn hk2 a.1 0 (xs (a.1 + 2 : Int32).toNatClampNeg) (xs (a.1 + 1 : Int32).toNatClampNeg) a.2 _ hf hk
          · have hf := (if_neg h9).symm.trans hf
            refine gx_iconst C (v := 1) d_Law_law_158 (by decide) ?_
            refine gx_goto (tgt := 163) C d_Law_law_159 (by decide) ?_
            exact jc_law_163L43 C hR hlt hX hbl hbA hn hk2 a.1 1 (xs (a.1 + 2 : Int32).toNatClampNeg) (xs (a.1 + 1 : Int32).toNatClampNeg) a.2 _ hf hk
        · have hf := (if_neg h5).symm.trans hf
          by_cases h22 : ((xs (a.1 : Int32).toNatClampNeg) &&& 15) = 1
          · have hf := (if_pos h22).symm.trans hf
            refine gx_tabIn (tgt := 239) (off := 180) C d_Law_law_59 (gx_tnl h3) (gx_tng (a := 15) (by decide) h4) (by rw [h22]; rfl) (by decide) ?_
            refine gx_aload_n C 1 d_Law_law_239 rfl rfl ?_
            refine gx_aload_n C 0 d_Law_law_240 rfl rfl ?_
            refine gx_iload C 4 d_Law_law_241 rfl ?_
            refine gx_iconst C (v := 1) d_Law_law_243 (by decide) ?_
            refine gx_iadd C d_Law_law_244 ?_
            obtain ⟨hi23, hf⟩ := gx_ck_some hf
            refine gx_sld C hX hbl hbA hi23 d_Law_law_245 ?_
            refine gx_aload_n C 0 d_Law_law_246 rfl rfl ?_
            refine gx_iload C 4 d_Law_law_247 rfl ?_
            refine gx_iconst C (v := 2) d_Law_law_249 (by decide) ?_
            refine gx_iadd C d_Law_law_250 ?_
            obtain ⟨hi24, hf⟩ := gx_ck_some hf
            refine gx_sld C hX hbl hbA hi24 d_Law_law_251 ?_
            refine gx_aload_n C 0 d_Law_law_252 rfl rfl ?_
            refine gx_iload C 4 d_Law_law_253 rfl ?_
            refine gx_iconst C (v := 3) d_Law_law_255 (by decide) ?_
            refine gx_iadd C d_Law_law_256 ?_
            obtain ⟨hi25, hf⟩ := gx_ck_some hf
            refine gx_sld C hX hbl hbA hi25 d_Law_law_257 ?_
            refine gx_aload_n C 3 d_Law_law_258 rfl rfl ?_
            obtain ⟨r26, x26, hc26, hf⟩ := gx_bd_some hf
            refine gx_cSWi (n2 := n + 2) (k2 := k + 12) C (As := [.ref (gx_ad E 28), .int (xs (a.1 + 1 : Int32).toNatClampNeg), .int (xs (a.1 + 2 : Int32).toNatClampNeg), .int (xs (a.1 + 3 : Int32).toNatClampNeg), .ref (gx_ad E 48)]) (rest := []) 5 (c_CaseLayoutLaw_zone K.l hlt (xs (a.1 + 1 : Int32).toNatClampNeg) (xs (a.1 + 2 : Int32).toNatClampNeg) (xs (a.1 + 3 : Int32).toNatClampNeg) a.2 _ hc26) (Or.inl rfl) rfl gw_380 gw_381 gw_0 gw_382 (by decide +kernel) (by rw [hR]; decide) rfl rfl (Nat.le_of_ble_eq_true rfl) d_Law_law_259 (by rw [hR]; exact ⟨(by show n + 0 + 2 ≤ 601024; omega), (by show k + 0 + 12 ≤ 7293000; omega)⟩) (show n + 0 + 2 = n + 2 by omega) (show k + 0 + 12 = k + 12 by omega) ?_
            refine gx_istore C (lv' := [(5, .int r26), (0, .ref b), (1, .ref (gx_ad E 28)), (2, .ref (gx_ad E 29)), (3, .ref (gx_ad E 48)), (4, .int a.1)]) d_Law_law_262 (by decide) rfl ?_
            refine gx_aload_n C 3 d_Law_law_264 rfl rfl ?_
            refine gx_aload_n C 1 d_Law_law_265 rfl rfl ?_
            refine gx_iload C 5 d_Law_law_266 rfl ?_
            refine gx_iconst C (v := 1) d_Law_law_268 (by decide) ?_
            refine gx_iadd C d_Law_law_269 ?_
            obtain ⟨hi27, hf⟩ := gx_ck_some hf
            refine gx_sld C hX hbl hbA hi27 d_Law_law_270 ?_
            refine gx_aload_n C 1 d_Law_law_271 rfl rfl ?_
            refine gx_iload C 5 d_Law_law_272 rfl ?_
            refine gx_iconst C (v := 2) d_Law_law_274 (by decide) ?_
            refine gx_iadd C d_Law_law_275 ?_
            obtain ⟨hi28, hf⟩ := gx_ck_some hf
            refine gx_sld C hX hbl hbA hi28 d_Law_law_276 ?_
            refine gx_aload_n C 1 d_Law_law_277 rfl rfl ?_
            refine gx_iload C 5 d_Law_law_278 rfl ?_
            refine gx_iconst C (v := 3) d_Law_law_280 (by decide) ?_
            refine gx_iadd C d_Law_law_281 ?_
            obtain ⟨hi29, hf⟩ := gx_ck_some hf
            refine gx_sld C hX hbl hbA hi29 d_Law_law_282 ?_
            obtain ⟨r30, x30, hc30, hf⟩ := gx_bd_some hf
            refine gx_cVi (n2 := n + 2) (k2 := k + 12) C (As := [.int (xs (a.1 + 1 : Int32).toNatClampNeg), .int (xs (a.1 + 2 : Int32).toNatClampNeg), .int (xs (a.1 + 3 : Int32).toNatClampNeg)]) (rest := []) 29 3 (c_CaseLayoutModel_zone K.l (xs (a.1 + 1 : Int32).toNatClampNeg) (xs (a.1 + 2 : Int32).toNatClampNeg) (xs (a.1 + 3 : Int32).toNatClampNeg) x26 _ hc30) (Or.inl rfl) rfl (gx_goodV gw_790 gw_791 gw_792 gw_10 gw_793) (by decide +kernel) (gx_w29 E _) rfl (by rw [hR]; decide) rfl rfl (Nat.le_of_ble_eq_true rfl) d_Law_law_283 (by rw [hR]; exact ⟨(by show n + 2 + 0 ≤ 601024; omega), (by show k + 12 + 0 ≤ 7293000; omega)⟩) (show n + 2 + 0 = n + 2 by omega) (show k + 12 + 0 = k + 12 by omega) ?_
            refine gx_istore C (lv' := [(6, .int r30), (5, .int r26), (0, .ref b), (1, .ref (gx_ad E 28)), (2, .ref (gx_ad E 29)), (3, .ref (gx_ad E 48)), (4, .int a.1)]) d_Law_law_286 (by decide) rfl ?_
            refine gx_aload_n C 4 d_Law_law_288 rfl rfl ?_
            obtain ⟨r31, x31, hc31, hf⟩ := gx_bd_some hf
            refine gx_cVi (n2 := n + 2) (k2 := k + 12) C (As := []) (rest := []) 29 0 (c_CaseLayoutModel_thrown K.l  x30 _ hc31) (Or.inl rfl) rfl (gx_goodV gw_759 gw_760 gw_761 gw_10 gw_762) (by decide +kernel) (gx_w29 E _) rfl (by rw [hR]; decide) rfl rfl (Nat.le_of_ble_eq_true rfl) d_Law_law_289 (by rw [hR]; exact ⟨(by show n + 2 + 0 ≤ 601024; omega), (by show k + 12 + 0 ≤ 7293000; omega)⟩) (show n + 2 + 0 = n + 2 by omega) (show k + 12 + 0 = k + 12 by omega) ?_
            refine gx_iload C 1 d_Law_law_292 rfl ?_
            refine gx_icmp_eq (tgt := 299) C d_Law_law_294 (by decide) (fun h32 => ?_) (fun h32 => ?_)
            · have hf := (if_pos h32).symm.trans hf
              refine gx_iload C 1 d_Law_law_299 rfl ?_
              refine gx_if_ne (tgt := 316) C d_Law_law_301 (by decide) (fun h33 => ?_) (fun h33 => ?_)
              · have hf := (if_neg h33).symm.trans hf
                refine gx_goto (tgt := 1203) C d_Law_law_316 (by decide) ?_
                refine gx_iinc C (v := a.1 + 4) (lv' := [(4, .int (a.1 + 4)), (6, .int r30), (5, .int r26), (0, .ref b), (1, .ref (gx_ad E 28)), (2, .ref (gx_ad E 29)), (3, .ref (gx_ad E 48))]) 6 d_Law_law_1203 rfl rfl (by decide) rfl ?_
                refine gx_goto (tgt := 43) C d_Law_law_1206 (by decide) ?_
                cases hf
                refine gx_widen (n' := n + 4) (k' := k + 24) (by omega) (by omega) ?_
                refine gx_lv (lv' := [(0, .ref b), (1, .ref (gx_ad E 28)), (2, .ref (gx_ad E 29)), (3, .ref (gx_ad E 48)), (4, .int (a.1 + 4))]) [3, 4, 5, 6, 0] rfl ?_
                exact hk
              · have hf := (if_pos h33).symm.trans hf
                refine gx_aload_n C 5 d_Law_law_304 rfl rfl ?_
                refine gx_iconst C (v := 0) d_Law_law_305 (by decide) ?_
                obtain ⟨hi34, hf⟩ := gx_ck_some hf
                refine gx_lald C 48 2 (gx_w48 E _) rfl hi34 d_Law_law_306 ?_
                refine gx_iload C 0 d_Law_law_307 rfl ?_
                refine gx_i2l C d_Law_law_309 rfl ?_
                refine gx_lcmp C d_Law_law_310 ?_
                refine gx_if_eq (tgt := 316) C d_Law_law_311 (by decide) (fun h35 => ?_) (fun h35 => ?_)
                · have hf := (if_pos h35).symm.trans hf
                  refine gx_goto (tgt := 1203) C d_Law_law_316 (by decide) ?_
                  refine gx_iinc C (v := a.1 + 4) (lv' := [(4, .int (a.1 + 4)), (6, .int r30), (5, .int r26), (0, .ref b), (1, .ref (gx_ad E 28)), (2, .ref (gx_ad E 29)), (3, .ref (gx_ad E 48))]) 6 d_Law_law_1203 rfl rfl (by decide) rfl ?_
                  refine gx_goto (tgt := 43) C d_Law_law_1206 (by decide) ?_
                  cases hf
                  refine gx_widen (n' := n + 4) (k' := k + 24) (by omega) (by omega) ?_
                  refine gx_lv (lv' := [(0, .ref b), (1, .ref (gx_ad E 28)), (2, .ref (gx_ad E 29)), (3, .ref (gx_ad E 48)), (4, .int (a.1 + 4))]) [3, 4, 5, 6, 0] rfl ?_
                  exact hk
                · have hf := (if_neg h35).symm.trans hf
                  cases hf
                  have hk : pq_law_43 K E b (n + 4) (k + 24)  _ := hk
                  unfold pq_law_43 at hk
                  have hk := gx_ifn (by decide : ¬ ((3 : Nat) = 0)) hk
                  have hk := gx_ifn (by decide : ¬ ((3 : Nat) = 1)) hk
                  have hk := gx_ifn (by decide : ¬ ((3 : Nat) = 2)) hk
                  refine gx_widen (n' := n + 4) (k' := k + 24) (by omega) (by omega) ?_
                  have hk := gx_ifp (rfl : (3 : Nat) = 3) hk
                  refine gx_lv (lv' := []) [] rfl ?_
                  exact hk
            · have hf := (if_neg h32).symm.trans hf
              cases hf
              have hk : pq_law_43 K E b (n + 4) (k + 24)  _ := hk
              unfold pq_law_43 at hk
              have hk := gx_ifn (by decide : ¬ ((2 : Nat) = 0)) hk
              have hk := gx_ifn (by decide : ¬ ((2 : Nat) = 1)) hk
              refine gx_widen (n' := n + 4) (k' := k + 24) (by omega) (by omega) ?_
              have hk := gx_ifp (rfl : (2 : Nat) = 2) hk
              refine gx_lv (lv' := []) [] rfl ?_
              exact hk
          · have hf := (if_neg h22).symm.trans hf
            by_cases h36 : ((xs (a.1 : Int32).toNatClampNeg) &&& 15) = 2
            · have hf := (if_pos h36).symm.trans hf
              refine gx_tabIn (tgt := 319) (off := 260) C d_Law_law_59 (gx_tnl h3) (gx_tng (a := 15) (by decide) h4) (by rw [h36]; rfl) (by decide) ?_
              refine gx_aload_n C 1 d_Law_law_319 rfl rfl ?_
              refine gx_aload_n C 0 d_Law_law_320 rfl rfl ?_
              refine gx_iload C 4 d_Law_law_321 rfl ?_
              refine gx_iconst C (v := 1) d_Law_law_323 (by decide) ?_
              refine gx_iadd C d_Law_law_324 ?_
              obtain ⟨hi37, hf⟩ := gx_ck_some hf
              refine gx_sld C hX hbl hbA hi37 d_Law_law_325 ?_
              refine gx_aload_n C 0 d_Law_law_326 rfl rfl ?_
              refine gx_iload C 4 d_Law_law_327 rfl ?_
              refine gx_iconst C (v := 2) d_Law_law_329 (by decide) ?_
              refine gx_iadd C d_Law_law_330 ?_
              obtain ⟨hi38, hf⟩ := gx_ck_some hf
              refine gx_sld C hX hbl hbA hi38 d_Law_law_331 ?_
              refine gx_aload_n C 0 d_Law_law_332 rfl rfl ?_
              refine gx_iload C 4 d_Law_law_333 rfl ?_
              refine gx_iconst C (v := 3) d_Law_law_335 (by decide) ?_
              refine gx_iadd C d_Law_law_336 ?_
              obtain ⟨hi39, hf⟩ := gx_ck_some hf
              refine gx_sld C hX hbl hbA hi39 d_Law_law_337 ?_
              refine gx_aload_n C 3 d_Law_law_338 rfl rfl ?_
              obtain ⟨r40, x40, hc40, hf⟩ := gx_bd_some hf
              refine gx_cSWi (n2 := n + 3) (k2 := k + 18) C (As := [.ref (gx_ad E 28), .int (xs (a.1 + 1 : Int32).toNatClampNeg), .int (xs (a.1 + 2 : Int32).toNatClampNeg), .int (xs (a.1 + 3 : Int32).toNatClampNeg), .ref (gx_ad E 48)]) (rest := []) 5 (c_CaseLayoutLaw_thing K.l hlt (xs (a.1 + 1 : Int32).toNatClampNeg) (xs (a.1 + 2 : Int32).toNatClampNeg) (xs (a.1 + 3 : Int32).toNatClampNeg) a.2 _ hc40) (Or.inl rfl) rfl gw_407 gw_408 gw_0 gw_409 (by decide +kernel) (by rw [hR]; decide) rfl rfl (Nat.le_of_ble_eq_true rfl) d_Law_law_339 (by rw [hR]; exact ⟨(by show n + 0 + 3 ≤ 601024; omega), (by show k + 0 + 18 ≤ 7293000; omega)⟩) (show n + 0 + 3 = n + 3 by omega) (show k + 0 + 18 = k + 18 by omega) ?_
              refine gx_istore C (lv' := [(5, .int r40), (0, .ref b), (1, .ref (gx_ad E 28)), (2, .ref (gx_ad E 29)), (3, .ref (gx_ad E 48)), (4, .int a.1)]) d_Law_law_342 (by decide) rfl ?_
              refine gx_aload_n C 3 d_Law_law_344 rfl rfl ?_
              refine gx_aload_n C 1 d_Law_law_345 rfl rfl ?_
              refine gx_iload C 5 d_Law_law_346 rfl ?_
              refine gx_iconst C (v := 1) d_Law_law_348 (by decide) ?_
              refine gx_iadd C d_Law_law_349 ?_
              obtain ⟨hi41, hf⟩ := gx_ck_some hf
              refine gx_sld C hX hbl hbA hi41 d_Law_law_350 ?_
              refine gx_aload_n C 1 d_Law_law_351 rfl rfl ?_
              refine gx_iload C 5 d_Law_law_352 rfl ?_
              refine gx_iconst C (v := 2) d_Law_law_354 (by decide) ?_
              refine gx_iadd C d_Law_law_355 ?_
              obtain ⟨hi42, hf⟩ := gx_ck_some hf
              refine gx_sld C hX hbl hbA hi42 d_Law_law_356 ?_
              refine gx_aload_n C 1 d_Law_law_357 rfl rfl ?_
              refine gx_iload C 5 d_Law_law_358 rfl ?_
              refine gx_iconst C (v := 3) d_Law_law_360 (by decide) ?_
              refine gx_iadd C d_Law_law_361 ?_
              obtain ⟨hi43, hf⟩ := gx_ck_some hf
              refine gx_sld C hX hbl hbA hi43 d_Law_law_362 ?_
              obtain ⟨r44, x44, hc44, hf⟩ := gx_bd_some hf
              refine gx_cVi (n2 := n + 3) (k2 := k + 18) C (As := [.int (xs (a.1 + 1 : Int32).toNatClampNeg), .int (xs (a.1 + 2 : Int32).toNatClampNeg), .int (xs (a.1 + 3 : Int32).toNatClampNeg)]) (rest := []) 29 3 (c_CaseLayoutModel_thing K.l (xs (a.1 + 1 : Int32).toNatClampNeg) (xs (a.1 + 2 : Int32).toNatClampNeg) (xs (a.1 + 3 : Int32).toNatClampNeg) x40 _ hc44) (Or.inl rfl) rfl (gx_goodV gw_794 gw_795 gw_796 gw_10 gw_797) (by decide +kernel) (gx_w29 E _) rfl (by rw [hR]; decide) rfl rfl (Nat.le_of_ble_eq_true rfl) d_Law_law_363 (by rw [hR]; exact ⟨(by show n + 3 + 0 ≤ 601024; omega), (by show k + 18 + 0 ≤ 7293000; omega)⟩) (show n + 3 + 0 = n + 3 by omega) (show k + 18 + 0 = k + 18 by omega) ?_
              refine gx_istore C (lv' := [(6, .int r44), (5, .int r40), (0, .ref b), (1, .ref (gx_ad E 28)), (2, .ref (gx_ad E 29)), (3, .ref (gx_ad E 48)), (4, .int a.1)]) d_Law_law_366 (by decide) rfl ?_
              refine gx_aload_n C 4 d_Law_law_368 rfl rfl ?_
              obtain ⟨r45, x45, hc45, hf⟩ := gx_bd_some hf
              refine gx_cVi (n2 := n + 3) (k2 := k + 18) C (As := []) (rest := []) 29 0 (c_CaseLayoutModel_thrown K.l  x44 _ hc45) (Or.inl rfl) rfl (gx_goodV gw_759 gw_760 gw_761 gw_10 gw_762) (by decide +kernel) (gx_w29 E _) rfl (by rw [hR]; decide) rfl rfl (Nat.le_of_ble_eq_true rfl) d_Law_law_369 (by rw [hR]; exact ⟨(by show n + 3 + 0 ≤ 601024; omega), (by show k + 18 + 0 ≤ 7293000; omega)⟩) (show n + 3 + 0 = n + 3 by omega) (show k + 18 + 0 = k + 18 by omega) ?_
              refine gx_iload C 1 d_Law_law_372 rfl ?_
              refine gx_icmp_eq (tgt := 379) C d_Law_law_374 (by decide) (fun h46 => ?_) (fun h46 => ?_)
              · have hf := (if_pos h46).symm.trans hf
                refine gx_iload C 1 d_Law_law_379 rfl ?_
                refine gx_if_ne (tgt := 396) C d_Law_law_381 (by decide) (fun h47 => ?_) (fun h47 => ?_)
                · have hf := (if_neg h47).symm.trans hf
                  refine gx_goto (tgt := 1203) C d_Law_law_396 (by decide) ?_
                  refine gx_iinc C (v := a.1 + 4) (lv' := [(4, .int (a.1 + 4)), (6, .int r44), (5, .int r40), (0, .ref b), (1, .ref (gx_ad E 28)), (2, .ref (gx_ad E 29)), (3, .ref (gx_ad E 48))]) 6 d_Law_law_1203 rfl rfl (by decide) rfl ?_
                  refine gx_goto (tgt := 43) C d_Law_law_1206 (by decide) ?_
                  cases hf
                  refine gx_widen (n' := n + 4) (k' := k + 24) (by omega) (by omega) ?_
                  refine gx_lv (lv' := [(0, .ref b), (1, .ref (gx_ad E 28)), (2, .ref (gx_ad E 29)), (3, .ref (gx_ad E 48)), (4, .int (a.1 + 4))]) [3, 4, 5, 6, 0] rfl ?_
                  exact hk
                · have hf := (if_pos h47).symm.trans hf
                  refine gx_aload_n C 5 d_Law_law_384 rfl rfl ?_
                  refine gx_iconst C (v := 0) d_Law_law_385 (by decide) ?_
                  obtain ⟨hi48, hf⟩ := gx_ck_some hf
                  refine gx_lald C 48 2 (gx_w48 E _) rfl hi48 d_Law_law_386 ?_
                  refine gx_iload C 0 d_Law_law_387 rfl ?_
                  refine gx_i2l C d_Law_law_389 rfl ?_
                  refine gx_lcmp C d_Law_law_390 ?_
                  refine gx_if_eq (tgt := 396) C d_Law_law_391 (by decide) (fun h49 => ?_) (fun h49 => ?_)
                  · have hf := (if_pos h49).symm.trans hf
                    refine gx_goto (tgt := 1203) C d_Law_law_396 (by decide) ?_
                    refine gx_iinc C (v := a.1 + 4) (lv' := [(4, .int (a.1 + 4)), (6, .int r44), (5, .int r40), (0, .ref b), (1, .ref (gx_ad E 28)), (2, .ref (gx_ad E 29)), (3, .ref (gx_ad E 48))]) 6 d_Law_law_1203 rfl rfl (by decide) rfl ?_
                    refine gx_goto (tgt := 43) C d_Law_law_1206 (by decide) ?_
                    cases hf
                    refine gx_widen (n' := n + 4) (k' := k + 24) (by omega) (by omega) ?_
                    refine gx_lv (lv' := [(0, .ref b), (1, .ref (gx_ad E 28)), (2, .ref (gx_ad E 29)), (3, .ref (gx_ad E 48)), (4, .int (a.1 + 4))]) [3, 4, 5, 6, 0] rfl ?_
                    exact hk
                  · have hf := (if_neg h49).symm.trans hf
                    cases hf
                    have hk : pq_law_43 K E b (n + 4) (k + 24)  _ := hk
                    unfold pq_law_43 at hk
                    have hk := gx_ifn (by decide : ¬ ((5 : Nat) = 0)) hk
                    have hk := gx_ifn (by decide : ¬ ((5 : Nat) = 1)) hk
                    have hk := gx_ifn (by decide : ¬ ((5 : Nat) = 2)) hk
                    have hk := gx_ifn (by decide : ¬ ((5 : Nat) = 3)) hk
                    have hk := gx_ifn (by decide : ¬ ((5 : Nat) = 4)) hk
                    refine gx_widen (n' := n + 4) (k' := k + 24) (by omega) (by omega) ?_
                    have hk := gx_ifp (rfl : (5 : Nat) = 5) hk
                    refine gx_lv (lv' := []) [] rfl ?_
                    exact hk
              · have hf := (if_neg h46).symm.trans hf
                cases hf
                have hk : pq_law_43 K E b (n + 4) (k + 24)  _ := hk
                unfold pq_law_43 at hk
                have hk := gx_ifn (by decide : ¬ ((4 : Nat) = 0)) hk
                have hk := gx_ifn (by decide : ¬ ((4 : Nat) = 1)) hk
                have hk := gx_ifn (by decide : ¬ ((4 : Nat) = 2)) hk
                have hk := gx_ifn (by decide : ¬ ((4 : Nat) = 3)) hk
                refine gx_widen (n' := n + 4) (k' := k + 24) (by omega) (by omega) ?_
                have hk := gx_ifp (rfl : (4 : Nat) = 4) hk
                refine gx_lv (lv' := []) [] rfl ?_
                exact hk
            · have hf := (if_neg h36).symm.trans hf
              by_cases h50 : ((xs (a.1 : Int32).toNatClampNeg) &&& 15) = 3
              · have hf := (if_pos h50).symm.trans hf
                refine gx_tabIn (tgt := 399) (off := 340) C d_Law_law_59 (gx_tnl h3) (gx_tng (a := 15) (by decide) h4) (by rw [h50]; rfl) (by decide) ?_
                refine gx_aload_n C 1 d_Law_law_399 rfl rfl ?_
                refine gx_aload_n C 0 d_Law_law_400 rfl rfl ?_
                refine gx_iload C 4 d_Law_law_401 rfl ?_
                refine gx_iconst C (v := 1) d_Law_law_403 (by decide) ?_
                refine gx_iadd C d_Law_law_404 ?_
                obtain ⟨hi51, hf⟩ := gx_ck_some hf
                refine gx_sld C hX hbl hbA hi51 d_Law_law_405 ?_
                refine gx_aload_n C 0 d_Law_law_406 rfl rfl ?_
                refine gx_iload C 4 d_Law_law_407 rfl ?_
                refine gx_iconst C (v := 2) d_Law_law_409 (by decide) ?_
                refine gx_iadd C d_Law_law_410 ?_
                obtain ⟨hi52, hf⟩ := gx_ck_some hf
                refine gx_sld C hX hbl hbA hi52 d_Law_law_411 ?_
                refine gx_aload_n C 0 d_Law_law_412 rfl rfl ?_
                refine gx_iload C 4 d_Law_law_413 rfl ?_
                refine gx_iconst C (v := 3) d_Law_law_415 (by decide) ?_
                refine gx_iadd C d_Law_law_416 ?_
                obtain ⟨hi53, hf⟩ := gx_ck_some hf
                refine gx_sld C hX hbl hbA hi53 d_Law_law_417 ?_
                refine gx_aload_n C 3 d_Law_law_418 rfl rfl ?_
                obtain ⟨r54, x54, hc54, hf⟩ := gx_bd_some hf
                refine gx_cSWi (n2 := n + 4) (k2 := k + 24) C (As := [.ref (gx_ad E 28), .int (xs (a.1 + 1 : Int32).toNatClampNeg), .int (xs (a.1 + 2 : Int32).toNatClampNeg), .int (xs (a.1 + 3 : Int32).toNatClampNeg), .ref (gx_ad E 48)]) (rest := []) 5 (c_CaseLayoutLaw_apart K.l hlt (xs (a.1 + 1 : Int32).toNatClampNeg) (xs (a.1 + 2 : Int32).toNatClampNeg) (xs (a.1 + 3 : Int32).toNatClampNeg) a.2 _ hc54) (Or.inl rfl) rfl gw_435 gw_436 gw_0 gw_437 (by decide +kernel) (by rw [hR]; decide) rfl rfl (Nat.le_of_ble_eq_true rfl) d_Law_law_419 (by rw [hR]; exact ⟨(by show n + 0 + 4 ≤ 601024; omega), (by show k + 0 + 24 ≤ 7293000; omega)⟩) (show n + 0 + 4 = n + 4 by omega) (show k + 0 + 24 = k + 24 by omega) ?_
                refine gx_istore C (lv' := [(5, .int r54), (0, .ref b), (1, .ref (gx_ad E 28)), (2, .ref (gx_ad E 29)), (3, .ref (gx_ad E 48)), (4, .int a.1)]) d_Law_law_422 (by decide) rfl ?_
                refine gx_aload_n C 3 d_Law_law_424 rfl rfl ?_
                refine gx_aload_n C 1 d_Law_law_425 rfl rfl ?_
                refine gx_iload C 5 d_Law_law_426 rfl ?_
                refine gx_iconst C (v := 1) d_Law_law_428 (by decide) ?_
                refine gx_iadd C d_Law_law_429 ?_
                obtain ⟨hi55, hf⟩ := gx_ck_some hf
                refine gx_sld C hX hbl hbA hi55 d_Law_law_430 ?_
                refine gx_aload_n C 1 d_Law_law_431 rfl rfl ?_
                refine gx_iload C 5 d_Law_law_432 rfl ?_
                refine gx_iconst C (v := 2) d_Law_law_434 (by decide) ?_
                refine gx_iadd C d_Law_law_435 ?_
                obtain ⟨hi56, hf⟩ := gx_ck_some hf
                refine gx_sld C hX hbl hbA hi56 d_Law_law_436 ?_
                refine gx_aload_n C 1 d_Law_law_437 rfl rfl ?_
                refine gx_iload C 5 d_Law_law_438 rfl ?_
                refine gx_iconst C (v := 3) d_Law_law_440 (by decide) ?_
                refine gx_iadd C d_Law_law_441 ?_
                obtain ⟨hi57, hf⟩ := gx_ck_some hf
                refine gx_sld C hX hbl hbA hi57 d_Law_law_442 ?_
                obtain ⟨r58, x58, hc58, hf⟩ := gx_bd_some hf
                refine gx_cVi (n2 := n + 4) (k2 := k + 24) C (As := [.int (xs (a.1 + 1 : Int32).toNatClampNeg), .int (xs (a.1 + 2 : Int32).toNatClampNeg), .int (xs (a.1 + 3 : Int32).toNatClampNeg)]) (rest := []) 29 3 (c_CaseLayoutModel_apart K.l (xs (a.1 + 1 : Int32).toNatClampNeg) (xs (a.1 + 2 : Int32).toNatClampNeg) (xs (a.1 + 3 : Int32).toNatClampNeg) x54 _ hc58) (Or.inl rfl) rfl (gx_goodV gw_798 gw_799 gw_800 gw_10 gw_801) (by decide +kernel) (gx_w29 E _) rfl (by rw [hR]; decide) rfl rfl (Nat.le_of_ble_eq_true rfl) d_Law_law_443 (by rw [hR]; exact ⟨(by show n + 4 + 0 ≤ 601024; omega), (by show k + 24 + 0 ≤ 7293000; omega)⟩) (show n + 4 + 0 = n + 4 by omega) (show k + 24 + 0 = k + 24 by omega) ?_
                refine gx_istore C (lv' := [(6, .int r58), (5, .int r54), (0, .ref b), (1, .ref (gx_ad E 28)), (2, .ref (gx_ad E 29)), (3, .ref (gx_ad E 48)), (4, .int a.1)]) d_Law_law_446 (by decide) rfl ?_
                refine gx_aload_n C 4 d_Law_law_448 rfl rfl ?_
                obtain ⟨r59, x59, hc59, hf⟩ := gx_bd_some hf
                refine gx_cVi (n2 := n + 4) (k2 := k + 24) C (As := []) (rest := []) 29 0 (c_CaseLayoutModel_thrown K.l  x58 _ hc59) (Or.inl rfl) rfl (gx_goodV gw_759 gw_760 gw_761 gw_10 gw_762) (by decide +kernel) (gx_w29 E _) rfl (by rw [hR]; decide) rfl rfl (Nat.le_of_ble_eq_true rfl) d_Law_law_449 (by rw [hR]; exact ⟨(by show n + 4 + 0 ≤ 601024; omega), (by show k + 24 + 0 ≤ 7293000; omega)⟩) (show n + 4 + 0 = n + 4 by omega) (show k + 24 + 0 = k + 24 by omega) ?_
                refine gx_iload C 1 d_Law_law_452 rfl ?_
                refine gx_icmp_eq (tgt := 459) C d_Law_law_454 (by decide) (fun h60 => ?_) (fun h60 => ?_)
                · have hf := (if_pos h60).symm.trans hf
                  refine gx_iload C 1 d_Law_law_459 rfl ?_
                  refine gx_if_ne (tgt := 476) C d_Law_law_461 (by decide) (fun h61 => ?_) (fun h61 => ?_)
                  · have hf := (if_neg h61).symm.trans hf
                    refine gx_goto (tgt := 1203) C d_Law_law_476 (by decide) ?_
                    refine gx_iinc C (v := a.1 + 4) (lv' := [(4, .int (a.1 + 4)), (6, .int r58), (5, .int r54), (0, .ref b), (1, .ref (gx_ad E 28)), (2, .ref (gx_ad E 29)), (3, .ref (gx_ad E 48))]) 6 d_Law_law_1203 rfl rfl (by decide) rfl ?_
                    refine gx_goto (tgt := 43) C d_Law_law_1206 (by decide) ?_
                    cases hf
                    refine gx_widen (n' := n + 4) (k' := k + 24) (by omega) (by omega) ?_
                    refine gx_lv (lv' := [(0, .ref b), (1, .ref (gx_ad E 28)), (2, .ref (gx_ad E 29)), (3, .ref (gx_ad E 48)), (4, .int (a.1 + 4))]) [3, 4, 5, 6, 0] rfl ?_
                    exact hk
                  · have hf := (if_pos h61).symm.trans hf
                    refine gx_aload_n C 5 d_Law_law_464 rfl rfl ?_
                    refine gx_iconst C (v := 0) d_Law_law_465 (by decide) ?_
                    obtain ⟨hi62, hf⟩ := gx_ck_some hf
                    refine gx_lald C 48 2 (gx_w48 E _) rfl hi62 d_Law_law_466 ?_
                    refine gx_iload C 0 d_Law_law_467 rfl ?_
                    refine gx_i2l C d_Law_law_469 rfl ?_
                    refine gx_lcmp C d_Law_law_470 ?_
                    refine gx_if_eq (tgt := 476) C d_Law_law_471 (by decide) (fun h63 => ?_) (fun h63 => ?_)
                    · have hf := (if_pos h63).symm.trans hf
                      refine gx_goto (tgt := 1203) C d_Law_law_476 (by decide) ?_
                      refine gx_iinc C (v := a.1 + 4) (lv' := [(4, .int (a.1 + 4)), (6, .int r58), (5, .int r54), (0, .ref b), (1, .ref (gx_ad E 28)), (2, .ref (gx_ad E 29)), (3, .ref (gx_ad E 48))]) 6 d_Law_law_1203 rfl rfl (by decide) rfl ?_
                      refine gx_goto (tgt := 43) C d_Law_law_1206 (by decide) ?_
                      cases hf
                      refine gx_widen (n' := n + 4) (k' := k + 24) (by omega) (by omega) ?_
                      refine gx_lv (lv' := [(0, .ref b), (1, .ref (gx_ad E 28)), (2, .ref (gx_ad E 29)), (3, .ref (gx_ad E 48)), (4, .int (a.1 + 4))]) [3, 4, 5, 6, 0] rfl ?_
                      exact hk
                    · have hf := (if_neg h63).symm.trans hf
                      cases hf
                      have hk : pq_law_43 K E b (n + 4) (k + 24)  _ := hk
                      unfold pq_law_43 at hk
                      have hk := gx_ifn (by decide : ¬ ((7 : Nat) = 0)) hk
                      have hk := gx_ifn (by decide : ¬ ((7 : Nat) = 1)) hk
                      have hk := gx_ifn (by decide : ¬ ((7 : Nat) = 2)) hk
                      have hk := gx_ifn (by decide : ¬ ((7 : Nat) = 3)) hk
                      have hk := gx_ifn (by decide : ¬ ((7 : Nat) = 4)) hk
                      have hk := gx_ifn (by decide : ¬ ((7 : Nat) = 5)) hk
                      have hk := gx_ifn (by decide : ¬ ((7 : Nat) = 6)) hk
                      refine gx_widen (n' := n + 4) (k' := k + 24) (by omega) (by omega) ?_
                      have hk := gx_ifp (rfl : (7 : Nat) = 7) hk
                      refine gx_lv (lv' := []) [] rfl ?_
                      exact hk
                · have hf := (if_neg h60).symm.trans hf
                  cases hf
                  have hk : pq_law_43 K E b (n + 4) (k + 24)  _ := hk
                  unfold pq_law_43 at hk
                  have hk := gx_ifn (by decide : ¬ ((6 : Nat) = 0)) hk
                  have hk := gx_ifn (by decide : ¬ ((6 : Nat) = 1)) hk
                  have hk := gx_ifn (by decide : ¬ ((6 : Nat) = 2)) hk
                  have hk := gx_ifn (by decide : ¬ ((6 : Nat) = 3)) hk
                  have hk := gx_ifn (by decide : ¬ ((6 : Nat) = 4)) hk
                  have hk := gx_ifn (by decide : ¬ ((6 : Nat) = 5)) hk
                  refine gx_widen (n' := n + 4) (k' := k + 24) (by omega) (by omega) ?_
                  have hk := gx_ifp (rfl : (6 : Nat) = 6) hk
                  refine gx_lv (lv' := []) [] rfl ?_
                  exact hk
              · have hf := (if_neg h50).symm.trans hf
                by_cases h64 : ((xs (a.1 : Int32).toNatClampNeg) &&& 15) = 4
                · have hf := (if_pos h64).symm.trans hf
                  refine gx_tabIn (tgt := 479) (off := 420) C d_Law_law_59 (gx_tnl h3) (gx_tng (a := 15) (by decide) h4) (by rw [h64]; rfl) (by decide) ?_
                  refine gx_aload_n C 1 d_Law_law_479 rfl rfl ?_
                  refine gx_aload_n C 0 d_Law_law_480 rfl rfl ?_
                  refine gx_iload C 4 d_Law_law_481 rfl ?_
                  refine gx_iconst C (v := 1) d_Law_law_483 (by decide) ?_
                  refine gx_iadd C d_Law_law_484 ?_
                  obtain ⟨hi65, hf⟩ := gx_ck_some hf
                  refine gx_sld C hX hbl hbA hi65 d_Law_law_485 ?_
                  refine gx_aload_n C 0 d_Law_law_486 rfl rfl ?_
                  refine gx_iload C 4 d_Law_law_487 rfl ?_
                  refine gx_iconst C (v := 2) d_Law_law_489 (by decide) ?_
                  refine gx_iadd C d_Law_law_490 ?_
                  obtain ⟨hi66, hf⟩ := gx_ck_some hf
                  refine gx_sld C hX hbl hbA hi66 d_Law_law_491 ?_
                  refine gx_aload_n C 0 d_Law_law_492 rfl rfl ?_
                  refine gx_iload C 4 d_Law_law_493 rfl ?_
                  refine gx_iconst C (v := 3) d_Law_law_495 (by decide) ?_
                  refine gx_iadd C d_Law_law_496 ?_
                  obtain ⟨hi67, hf⟩ := gx_ck_some hf
                  refine gx_sld C hX hbl hbA hi67 d_Law_law_497 ?_
                  refine gx_aload_n C 3 d_Law_law_498 rfl rfl ?_
                  obtain ⟨r68, x68, hc68, hf⟩ := gx_bd_some hf
                  refine gx_cSWi (n2 := n + 4) (k2 := k + 24) C (As := [.ref (gx_ad E 28), .int (xs (a.1 + 1 : Int32).toNatClampNeg), .int (xs (a.1 + 2 : Int32).toNatClampNeg), .int (xs (a.1 + 3 : Int32).toNatClampNeg), .ref (gx_ad E 48)]) (rest := []) 5 (c_CaseLayoutLaw_wish K.l hlt (xs (a.1 + 1 : Int32).toNatClampNeg) (xs (a.1 + 2 : Int32).toNatClampNeg) (xs (a.1 + 3 : Int32).toNatClampNeg) a.2 _ hc68) (Or.inl rfl) rfl gw_458 gw_459 gw_0 gw_460 (by decide +kernel) (by rw [hR]; decide) rfl rfl (Nat.le_of_ble_eq_true rfl) d_Law_law_499 (by rw [hR]; exact ⟨(by show n + 0 + 4 ≤ 601024; omega), (by show k + 0 + 24 ≤ 7293000; omega)⟩) (show n + 0 + 4 = n + 4 by omega) (show k + 0 + 24 = k + 24 by omega) ?_
                  refine gx_istore C (lv' := [(5, .int r68), (0, .ref b), (1, .ref (gx_ad E 28)), (2, .ref (gx_ad E 29)), (3, .ref (gx_ad E 48)), (4, .int a.1)]) d_Law_law_502 (by decide) rfl ?_
                  refine gx_aload_n C 3 d_Law_law_504 rfl rfl ?_
                  refine gx_aload_n C 1 d_Law_law_505 rfl rfl ?_
                  refine gx_iload C 5 d_Law_law_506 rfl ?_
                  refine gx_iconst C (v := 1) d_Law_law_508 (by decide) ?_
                  refine gx_iadd C d_Law_law_509 ?_
                  obtain ⟨hi69, hf⟩ := gx_ck_some hf
                  refine gx_sld C hX hbl hbA hi69 d_Law_law_510 ?_
                  refine gx_aload_n C 1 d_Law_law_511 rfl rfl ?_
                  refine gx_iload C 5 d_Law_law_512 rfl ?_
                  refine gx_iconst C (v := 2) d_Law_law_514 (by decide) ?_
                  refine gx_iadd C d_Law_law_515 ?_
                  obtain ⟨hi70, hf⟩ := gx_ck_some hf
                  refine gx_sld C hX hbl hbA hi70 d_Law_law_516 ?_
                  refine gx_aload_n C 1 d_Law_law_517 rfl rfl ?_
                  refine gx_iload C 5 d_Law_law_518 rfl ?_
                  refine gx_iconst C (v := 3) d_Law_law_520 (by decide) ?_
                  refine gx_iadd C d_Law_law_521 ?_
                  obtain ⟨hi71, hf⟩ := gx_ck_some hf
                  refine gx_sld C hX hbl hbA hi71 d_Law_law_522 ?_
                  obtain ⟨r72, x72, hc72, hf⟩ := gx_bd_some hf
                  refine gx_cVi (n2 := n + 4) (k2 := k + 24) C (As := [.int (xs (a.1 + 1 : Int32).toNatClampNeg), .int (xs (a.1 + 2 : Int32).toNatClampNeg), .int (xs (a.1 + 3 : Int32).toNatClampNeg)]) (rest := []) 29 3 (c_CaseLayoutModel_wish K.l (xs (a.1 + 1 : Int32).toNatClampNeg) (xs (a.1 + 2 : Int32).toNatClampNeg) (xs (a.1 + 3 : Int32).toNatClampNeg) x68 _ hc72) (Or.inl rfl) rfl (gx_goodV gw_806 gw_807 gw_808 gw_10 gw_809) (by decide +kernel) (gx_w29 E _) rfl (by rw [hR]; decide) rfl rfl (Nat.le_of_ble_eq_true rfl) d_Law_law_523 (by rw [hR]; exact ⟨(by show n + 4 + 0 ≤ 601024; omega), (by show k + 24 + 0 ≤ 7293000; omega)⟩) (show n + 4 + 0 = n + 4 by omega) (show k + 24 + 0 = k + 24 by omega) ?_
                  refine gx_istore C (lv' := [(6, .int r72), (5, .int r68), (0, .ref b), (1, .ref (gx_ad E 28)), (2, .ref (gx_ad E 29)), (3, .ref (gx_ad E 48)), (4, .int a.1)]) d_Law_law_526 (by decide) rfl ?_
                  refine gx_aload_n C 4 d_Law_law_528 rfl rfl ?_
                  obtain ⟨r73, x73, hc73, hf⟩ := gx_bd_some hf
                  refine gx_cVi (n2 := n + 4) (k2 := k + 24) C (As := []) (rest := []) 29 0 (c_CaseLayoutModel_thrown K.l  x72 _ hc73) (Or.inl rfl) rfl (gx_goodV gw_759 gw_760 gw_761 gw_10 gw_762) (by decide +kernel) (gx_w29 E _) rfl (by rw [hR]; decide) rfl rfl (Nat.le_of_ble_eq_true rfl) d_Law_law_529 (by rw [hR]; exact ⟨(by show n + 4 + 0 ≤ 601024; omega), (by show k + 24 + 0 ≤ 7293000; omega)⟩) (show n + 4 + 0 = n + 4 by omega) (show k + 24 + 0 = k + 24 by omega) ?_
                  refine gx_iload C 1 d_Law_law_532 rfl ?_
                  refine gx_icmp_eq (tgt := 539) C d_Law_law_534 (by decide) (fun h74 => ?_) (fun h74 => ?_)
                  · have hf := (if_pos h74).symm.trans hf
                    refine gx_iload C 1 d_Law_law_539 rfl ?_
                    refine gx_if_ne (tgt := 556) C d_Law_law_541 (by decide) (fun h75 => ?_) (fun h75 => ?_)
                    · have hf := (if_neg h75).symm.trans hf
                      refine gx_goto (tgt := 1203) C d_Law_law_556 (by decide) ?_
                      refine gx_iinc C (v := a.1 + 4) (lv' := [(4, .int (a.1 + 4)), (6, .int r72), (5, .int r68), (0, .ref b), (1, .ref (gx_ad E 28)), (2, .ref (gx_ad E 29)), (3, .ref (gx_ad E 48))]) 6 d_Law_law_1203 rfl rfl (by decide) rfl ?_
                      refine gx_goto (tgt := 43) C d_Law_law_1206 (by decide) ?_
                      cases hf
                      refine gx_widen (n' := n + 4) (k' := k + 24) (by omega) (by omega) ?_
                      refine gx_lv (lv' := [(0, .ref b), (1, .ref (gx_ad E 28)), (2, .ref (gx_ad E 29)), (3, .ref (gx_ad E 48)), (4, .int (a.1 + 4))]) [3, 4, 5, 6, 0] rfl ?_
                      exact hk
                    · have hf := (if_pos h75).symm.trans hf
                      refine gx_aload_n C 5 d_Law_law_544 rfl rfl ?_
                      refine gx_iconst C (v := 0) d_Law_law_545 (by decide) ?_
                      obtain ⟨hi76, hf⟩ := gx_ck_some hf
                      refine gx_lald C 48 2 (gx_w48 E _) rfl hi76 d_Law_law_546 ?_
                      refine gx_iload C 0 d_Law_law_547 rfl ?_
                      refine gx_i2l C d_Law_law_549 rfl ?_
                      refine gx_lcmp C d_Law_law_550 ?_
                      refine gx_if_eq (tgt := 556) C d_Law_law_551 (by decide) (fun h77 => ?_) (fun h77 => ?_)
                      · have hf := (if_pos h77).symm.trans hf
                        refine gx_goto (tgt := 1203) C d_Law_law_556 (by decide) ?_
                        refine gx_iinc C (v := a.1 + 4) (lv' := [(4, .int (a.1 + 4)), (6, .int r72), (5, .int r68), (0, .ref b), (1, .ref (gx_ad E 28)), (2, .ref (gx_ad E 29)), (3, .ref (gx_ad E 48))]) 6 d_Law_law_1203 rfl rfl (by decide) rfl ?_
                        refine gx_goto (tgt := 43) C d_Law_law_1206 (by decide) ?_
                        cases hf
                        refine gx_widen (n' := n + 4) (k' := k + 24) (by omega) (by omega) ?_
                        refine gx_lv (lv' := [(0, .ref b), (1, .ref (gx_ad E 28)), (2, .ref (gx_ad E 29)), (3, .ref (gx_ad E 48)), (4, .int (a.1 + 4))]) [3, 4, 5, 6, 0] rfl ?_
                        exact hk
                      · have hf := (if_neg h77).symm.trans hf
                        cases hf
                        have hk : pq_law_43 K E b (n + 4) (k + 24)  _ := hk
                        unfold pq_law_43 at hk
                        have hk := gx_ifn (by decide : ¬ ((9 : Nat) = 0)) hk
                        have hk := gx_ifn (by decide : ¬ ((9 : Nat) = 1)) hk
                        have hk := gx_ifn (by decide : ¬ ((9 : Nat) = 2)) hk
                        have hk := gx_ifn (by decide : ¬ ((9 : Nat) = 3)) hk
                        have hk := gx_ifn (by decide : ¬ ((9 : Nat) = 4)) hk
                        have hk := gx_ifn (by decide : ¬ ((9 : Nat) = 5)) hk
                        have hk := gx_ifn (by decide : ¬ ((9 : Nat) = 6)) hk
                        have hk := gx_ifn (by decide : ¬ ((9 : Nat) = 7)) hk
                        have hk := gx_ifn (by decide : ¬ ((9 : Nat) = 8)) hk
                        refine gx_widen (n' := n + 4) (k' := k + 24) (by omega) (by omega) ?_
                        have hk := gx_ifp (rfl : (9 : Nat) = 9) hk
                        refine gx_lv (lv' := []) [] rfl ?_
                        exact hk
                  · have hf := (if_neg h74).symm.trans hf
                    cases hf
                    have hk : pq_law_43 K E b (n + 4) (k + 24)  _ := hk
                    unfold pq_law_43 at hk
                    have hk := gx_ifn (by decide : ¬ ((8 : Nat) = 0)) hk
                    have hk := gx_ifn (by decide : ¬ ((8 : Nat) = 1)) hk
                    have hk := gx_ifn (by decide : ¬ ((8 : Nat) = 2)) hk
                    have hk := gx_ifn (by decide : ¬ ((8 : Nat) = 3)) hk
                    have hk := gx_ifn (by decide : ¬ ((8 : Nat) = 4)) hk
                    have hk := gx_ifn (by decide : ¬ ((8 : Nat) = 5)) hk
                    have hk := gx_ifn (by decide : ¬ ((8 : Nat) = 6)) hk
                    have hk := gx_ifn (by decide : ¬ ((8 : Nat) = 7)) hk
                    refine gx_widen (n' := n + 4) (k' := k + 24) (by omega) (by omega) ?_
                    have hk := gx_ifp (rfl : (8 : Nat) = 8) hk
                    refine gx_lv (lv' := []) [] rfl ?_
                    exact hk
                · have hf := (if_neg h64).symm.trans hf
                  by_cases h78 : ((xs (a.1 : Int32).toNatClampNeg) &&& 15) = 5
                  · have hf := (if_pos h78).symm.trans hf
                    refine gx_tabIn (tgt := 559) (off := 500) C d_Law_law_59 (gx_tnl h3) (gx_tng (a := 15) (by decide) h4) (by rw [h78]; rfl) (by decide) ?_
                    refine gx_aload_n C 1 d_Law_law_559 rfl rfl ?_
                    refine gx_aload_n C 0 d_Law_law_560 rfl rfl ?_
                    refine gx_iload C 4 d_Law_law_561 rfl ?_
                    refine gx_iconst C (v := 1) d_Law_law_563 (by decide) ?_
                    refine gx_iadd C d_Law_law_564 ?_
                    obtain ⟨hi79, hf⟩ := gx_ck_some hf
                    refine gx_sld C hX hbl hbA hi79 d_Law_law_565 ?_
                    refine gx_aload_n C 0 d_Law_law_566 rfl rfl ?_
                    refine gx_iload C 4 d_Law_law_567 rfl ?_
                    refine gx_iconst C (v := 2) d_Law_law_569 (by decide) ?_
                    refine gx_iadd C d_Law_law_570 ?_
                    obtain ⟨hi80, hf⟩ := gx_ck_some hf
                    refine gx_sld C hX hbl hbA hi80 d_Law_law_571 ?_
                    refine gx_aload_n C 3 d_Law_law_572 rfl rfl ?_
                    obtain ⟨r81, x81, hc81, hf⟩ := gx_bd_some hf
                    refine gx_cSWi (n2 := n + 2) (k2 := k + 12) C (As := [.ref (gx_ad E 28), .int (xs (a.1 + 1 : Int32).toNatClampNeg), .int (xs (a.1 + 2 : Int32).toNatClampNeg), .ref (gx_ad E 48)]) (rest := []) 4 (c_CaseLayoutLaw_place K.l hlt (xs (a.1 + 1 : Int32).toNatClampNeg) (xs (a.1 + 2 : Int32).toNatClampNeg) a.2 _ hc81) (Or.inl rfl) rfl gw_465 gw_466 gw_0 gw_467 (by decide +kernel) (by rw [hR]; decide) rfl rfl (Nat.le_of_ble_eq_true rfl) d_Law_law_573 (by rw [hR]; exact ⟨(by show n + 0 + 2 ≤ 601024; omega), (by show k + 0 + 12 ≤ 7293000; omega)⟩) (show n + 0 + 2 = n + 2 by omega) (show k + 0 + 12 = k + 12 by omega) ?_
                    refine gx_istore C (lv' := [(5, .int r81), (0, .ref b), (1, .ref (gx_ad E 28)), (2, .ref (gx_ad E 29)), (3, .ref (gx_ad E 48)), (4, .int a.1)]) d_Law_law_576 (by decide) rfl ?_
                    refine gx_aload_n C 3 d_Law_law_578 rfl rfl ?_
                    refine gx_aload_n C 1 d_Law_law_579 rfl rfl ?_
                    refine gx_iload C 5 d_Law_law_580 rfl ?_
                    refine gx_iconst C (v := 1) d_Law_law_582 (by decide) ?_
                    refine gx_iadd C d_Law_law_583 ?_
                    obtain ⟨hi82, hf⟩ := gx_ck_some hf
                    refine gx_sld C hX hbl hbA hi82 d_Law_law_584 ?_
                    refine gx_aload_n C 1 d_Law_law_585 rfl rfl ?_
                    refine gx_iload C 5 d_Law_law_586 rfl ?_
                    refine gx_iconst C (v := 2) d_Law_law_588 (by decide) ?_
                    refine gx_iadd C d_Law_law_589 ?_
                    obtain ⟨hi83, hf⟩ := gx_ck_some hf
                    refine gx_sld C hX hbl hbA hi83 d_Law_law_590 ?_
                    obtain ⟨r84, x84, hc84, hf⟩ := gx_bd_some hf
                    refine gx_cVi (n2 := n + 2) (k2 := k + 12) C (As := [.int (xs (a.1 + 1 : Int32).toNatClampNeg), .int (xs (a.1 + 2 : Int32).toNatClampNeg)]) (rest := []) 29 2 (c_CaseLayoutModel_place K.l (xs (a.1 + 1 : Int32).toNatClampNeg) (xs (a.1 + 2 : Int32).toNatClampNeg) x81 _ hc84) (Or.inl rfl) rfl (gx_goodV gw_810 gw_811 gw_812 gw_10 gw_813) (by decide +kernel) (gx_w29 E _) rfl (by rw [hR]; decide) rfl rfl (Nat.le_of_ble_eq_true rfl) d_Law_law_591 (by rw [hR]; exact ⟨(by show n + 2 + 0 ≤ 601024; omega), (by show k + 12 + 0 ≤ 7293000; omega)⟩) (show n + 2 + 0 = n + 2 by omega) (show k + 12 + 0 = k + 12 by omega) ?_
                    refine gx_istore C (lv' := [(6, .int r84), (5, .int r81), (0, .ref b), (1, .ref (gx_ad E 28)), (2, .ref (gx_ad E 29)), (3, .ref (gx_ad E 48)), (4, .int a.1)]) d_Law_law_594 (by decide) rfl ?_
                    refine gx_aload_n C 4 d_Law_law_596 rfl rfl ?_
                    obtain ⟨r85, x85, hc85, hf⟩ := gx_bd_some hf
                    refine gx_cVi (n2 := n + 2) (k2 := k + 12) C (As := []) (rest := []) 29 0 (c_CaseLayoutModel_thrown K.l  x84 _ hc85) (Or.inl rfl) rfl (gx_goodV gw_759 gw_760 gw_761 gw_10 gw_762) (by decide +kernel) (gx_w29 E _) rfl (by rw [hR]; decide) rfl rfl (Nat.le_of_ble_eq_true rfl) d_Law_law_597 (by rw [hR]; exact ⟨(by show n + 2 + 0 ≤ 601024; omega), (by show k + 12 + 0 ≤ 7293000; omega)⟩) (show n + 2 + 0 = n + 2 by omega) (show k + 12 + 0 = k + 12 by omega) ?_
                    refine gx_iload C 1 d_Law_law_600 rfl ?_
                    refine gx_icmp_eq (tgt := 607) C d_Law_law_602 (by decide) (fun h86 => ?_) (fun h86 => ?_)
                    · have hf := (if_pos h86).symm.trans hf
                      refine gx_iload C 1 d_Law_law_607 rfl ?_
                      refine gx_if_ne (tgt := 624) C d_Law_law_609 (by decide) (fun h87 => ?_) (fun h87 => ?_)
                      · have hf := (if_neg h87).symm.trans hf
                        refine gx_goto (tgt := 1203) C d_Law_law_624 (by decide) ?_
                        refine gx_iinc C (v := a.1 + 4) (lv' := [(4, .int (a.1 + 4)), (6, .int r84), (5, .int r81), (0, .ref b), (1, .ref (gx_ad E 28)), (2, .ref (gx_ad E 29)), (3, .ref (gx_ad E 48))]) 6 d_Law_law_1203 rfl rfl (by decide) rfl ?_
                        refine gx_goto (tgt := 43) C d_Law_law_1206 (by decide) ?_
                        cases hf
                        refine gx_widen (n' := n + 4) (k' := k + 24) (by omega) (by omega) ?_
                        refine gx_lv (lv' := [(0, .ref b), (1, .ref (gx_ad E 28)), (2, .ref (gx_ad E 29)), (3, .ref (gx_ad E 48)), (4, .int (a.1 + 4))]) [3, 4, 5, 6, 0] rfl ?_
                        exact hk
                      · have hf := (if_pos h87).symm.trans hf
                        refine gx_aload_n C 5 d_Law_law_612 rfl rfl ?_
                        refine gx_iconst C (v := 0) d_Law_law_613 (by decide) ?_
                        obtain ⟨hi88, hf⟩ := gx_ck_some hf
                        refine gx_lald C 48 2 (gx_w48 E _) rfl hi88 d_Law_law_614 ?_
                        refine gx_iload C 0 d_Law_law_615 rfl ?_
                        refine gx_i2l C d_Law_law_617 rfl ?_
                        refine gx_lcmp C d_Law_law_618 ?_
                        refine gx_if_eq (tgt := 624) C d_Law_law_619 (by decide) (fun h89 => ?_) (fun h89 => ?_)
                        · have hf := (if_pos h89).symm.trans hf
                          refine gx_goto (tgt := 1203) C d_Law_law_624 (by decide) ?_
                          refine gx_iinc C (v := a.1 + 4) (lv' := [(4, .int (a.1 + 4)), (6, .int r84), (5, .int r81), (0, .ref b), (1, .ref (gx_ad E 28)), (2, .ref (gx_ad E 29)), (3, .ref (gx_ad E 48))]) 6 d_Law_law_1203 rfl rfl (by decide) rfl ?_
                          refine gx_goto (tgt := 43) C d_Law_law_1206 (by decide) ?_
                          cases hf
                          refine gx_widen (n' := n + 4) (k' := k + 24) (by omega) (by omega) ?_
                          refine gx_lv (lv' := [(0, .ref b), (1, .ref (gx_ad E 28)), (2, .ref (gx_ad E 29)), (3, .ref (gx_ad E 48)), (4, .int (a.1 + 4))]) [3, 4, 5, 6, 0] rfl ?_
                          exact hk
                        · have hf := (if_neg h89).symm.trans hf
                          cases hf
                          have hk : pq_law_43 K E b (n + 4) (k + 24)  _ := hk
                          unfold pq_law_43 at hk
                          have hk := gx_ifn (by decide : ¬ ((11 : Nat) = 0)) hk
                          have hk := gx_ifn (by decide : ¬ ((11 : Nat) = 1)) hk
                          have hk := gx_ifn (by decide : ¬ ((11 : Nat) = 2)) hk
                          have hk := gx_ifn (by decide : ¬ ((11 : Nat) = 3)) hk
                          have hk := gx_ifn (by decide : ¬ ((11 : Nat) = 4)) hk
                          have hk := gx_ifn (by decide : ¬ ((11 : Nat) = 5)) hk
                          have hk := gx_ifn (by decide : ¬ ((11 : Nat) = 6)) hk
                          have hk := gx_ifn (by decide : ¬ ((11 : Nat) = 7)) hk
                          have hk := gx_ifn (by decide : ¬ ((11 : Nat) = 8)) hk
                          have hk := gx_ifn (by decide : ¬ ((11 : Nat) = 9)) hk
                          have hk := gx_ifn (by decide : ¬ ((11 : Nat) = 10)) hk
                          refine gx_widen (n' := n + 4) (k' := k + 24) (by omega) (by omega) ?_
                          have hk := gx_ifp (rfl : (11 : Nat) = 11) hk
                          refine gx_lv (lv' := []) [] rfl ?_
                          exact hk
                    · have hf := (if_neg h86).symm.trans hf
                      cases hf
                      have hk : pq_law_43 K E b (n + 4) (k + 24)  _ := hk
                      unfold pq_law_43 at hk
                      have hk := gx_ifn (by decide : ¬ ((10 : Nat) = 0)) hk
                      have hk := gx_ifn (by decide : ¬ ((10 : Nat) = 1)) hk
                      have hk := gx_ifn (by decide : ¬ ((10 : Nat) = 2)) hk
                      have hk := gx_ifn (by decide : ¬ ((10 : Nat) = 3)) hk
                      have hk := gx_ifn (by decide : ¬ ((10 : Nat) = 4)) hk
                      have hk := gx_ifn (by decide : ¬ ((10 : Nat) = 5)) hk
                      have hk := gx_ifn (by decide : ¬ ((10 : Nat) = 6)) hk
                      have hk := gx_ifn (by decide : ¬ ((10 : Nat) = 7)) hk
                      have hk := gx_ifn (by decide : ¬ ((10 : Nat) = 8)) hk
                      have hk := gx_ifn (by decide : ¬ ((10 : Nat) = 9)) hk
                      refine gx_widen (n' := n + 4) (k' := k + 24) (by omega) (by omega) ?_
                      have hk := gx_ifp (rfl : (10 : Nat) = 10) hk
                      refine gx_lv (lv' := []) [] rfl ?_
                      exact hk
                  · have hf := (if_neg h78).symm.trans hf
                    by_cases h90 : ((xs (a.1 : Int32).toNatClampNeg) &&& 15) = 6
                    · have hf := (if_pos h90).symm.trans hf
                      refine gx_tabIn (tgt := 627) (off := 568) C d_Law_law_59 (gx_tnl h3) (gx_tng (a := 15) (by decide) h4) (by rw [h90]; rfl) (by decide) ?_
                      refine gx_aload_n C 1 d_Law_law_627 rfl rfl ?_
                      refine gx_aload_n C 0 d_Law_law_628 rfl rfl ?_
                      refine gx_iload C 4 d_Law_law_629 rfl ?_
                      refine gx_iconst C (v := 1) d_Law_law_631 (by decide) ?_
                      refine gx_iadd C d_Law_law_632 ?_
                      obtain ⟨hi91, hf⟩ := gx_ck_some hf
                      refine gx_sld C hX hbl hbA hi91 d_Law_law_633 ?_
                      refine gx_aload_n C 0 d_Law_law_634 rfl rfl ?_
                      refine gx_iload C 4 d_Law_law_635 rfl ?_
                      refine gx_iconst C (v := 2) d_Law_law_637 (by decide) ?_
                      refine gx_iadd C d_Law_law_638 ?_
                      obtain ⟨hi92, hf⟩ := gx_ck_some hf
                      refine gx_sld C hX hbl hbA hi92 d_Law_law_639 ?_
                      refine gx_aload_n C 0 d_Law_law_640 rfl rfl ?_
                      refine gx_iload C 4 d_Law_law_641 rfl ?_
                      refine gx_iconst C (v := 3) d_Law_law_643 (by decide) ?_
                      refine gx_iadd C d_Law_law_644 ?_
                      obtain ⟨hi93, hf⟩ := gx_ck_some hf
                      refine gx_sld C hX hbl hbA hi93 d_Law_law_645 ?_
                      refine gx_if_eq (tgt := 653) C d_Law_law_646 (by decide) (fun h94 => ?_) (fun h94 => ?_)
                      · have hf := (if_pos h94).symm.trans hf
                        refine gx_iconst C (v := 0) d_Law_law_653 (by decide) ?_
                        exact jc_law_654L43 C hR hlt hX hbl hbA hn hk2 a.1 0 (xs (a.1 + 2 : Int32).toNatClampNeg) (xs (a.1 + 1 : Int32).toNatClampNeg) a.2 _ hf hk
                      · have hf := (if_neg h94).symm.trans hf
                        refine gx_iconst C (v := 1) d_Law_law_649 (by decide) ?_
                        refine gx_goto (tgt := 654) C d_Law_law_650 (by decide) ?_
                        exact jc_law_654L43 C hR hlt hX hbl hbA hn hk2 a.1 1 (xs (a.1 + 2 : Int32).toNatClampNeg) (xs (a.1 + 1 : Int32).toNatClampNeg) a.2 _ hf hk
                    · have hf := (if_neg h90).symm.trans hf
                      by_cases h107 : ((xs (a.1 : Int32).toNatClampNeg) &&& 15) = 7
                      · have hf := (if_pos h107).symm.trans hf
                        refine gx_tabIn (tgt := 730) (off := 671) C d_Law_law_59 (gx_tnl h3) (gx_tng (a := 15) (by decide) h4) (by rw [h107]; rfl) (by decide) ?_
                        refine gx_aload_n C 1 d_Law_law_730 rfl rfl ?_
                        refine gx_aload_n C 0 d_Law_law_731 rfl rfl ?_
                        refine gx_iload C 4 d_Law_law_732 rfl ?_
                        refine gx_iconst C (v := 1) d_Law_law_734 (by decide) ?_
                        refine gx_iadd C d_Law_law_735 ?_
                        obtain ⟨hi108, hf⟩ := gx_ck_some hf
                        refine gx_sld C hX hbl hbA hi108 d_Law_law_736 ?_
                        refine gx_aload_n C 0 d_Law_law_737 rfl rfl ?_
                        refine gx_iload C 4 d_Law_law_738 rfl ?_
                        refine gx_iconst C (v := 2) d_Law_law_740 (by decide) ?_
                        refine gx_iadd C d_Law_law_741 ?_
                        obtain ⟨hi109, hf⟩ := gx_ck_some hf
                        refine gx_sld C hX hbl hbA hi109 d_Law_law_742 ?_
                        refine gx_aload_n C 3 d_Law_law_743 rfl rfl ?_
                        obtain ⟨r110, x110, hc110, hf⟩ := gx_bd_some hf
                        refine gx_cSWi (n2 := n + 2) (k2 := k + 12) C (As := [.ref (gx_ad E 28), .int (xs (a.1 + 1 : Int32).toNatClampNeg), .int (xs (a.1 + 2 : Int32).toNatClampNeg), .ref (gx_ad E 48)]) (rest := []) 4 (c_CaseLayoutLaw_exit K.l hlt (xs (a.1 + 1 : Int32).toNatClampNeg) (xs (a.1 + 2 : Int32).toNatClampNeg) a.2 _ hc110) (Or.inl rfl) rfl gw_493 gw_494 gw_0 gw_495 (by decide +kernel) (by rw [hR]; decide) rfl rfl (Nat.le_of_ble_eq_true rfl) d_Law_law_744 (by rw [hR]; exact ⟨(by show n + 0 + 2 ≤ 601024; omega), (by show k + 0 + 12 ≤ 7293000; omega)⟩) (show n + 0 + 2 = n + 2 by omega) (show k + 0 + 12 = k + 12 by omega) ?_
                        refine gx_istore C (lv' := [(5, .int r110), (0, .ref b), (1, .ref (gx_ad E 28)), (2, .ref (gx_ad E 29)), (3, .ref (gx_ad E 48)), (4, .int a.1)]) d_Law_law_747 (by decide) rfl ?_
                        refine gx_aload_n C 3 d_Law_law_749 rfl rfl ?_
                        refine gx_aload_n C 1 d_Law_law_750 rfl rfl ?_
                        refine gx_iload C 5 d_Law_law_751 rfl ?_
                        refine gx_iconst C (v := 1) d_Law_law_753 (by decide) ?_
                        refine gx_iadd C d_Law_law_754 ?_
                        obtain ⟨hi111, hf⟩ := gx_ck_some hf
                        refine gx_sld C hX hbl hbA hi111 d_Law_law_755 ?_
                        refine gx_aload_n C 1 d_Law_law_756 rfl rfl ?_
                        refine gx_iload C 5 d_Law_law_757 rfl ?_
                        refine gx_iconst C (v := 2) d_Law_law_759 (by decide) ?_
                        refine gx_iadd C d_Law_law_760 ?_
                        obtain ⟨hi112, hf⟩ := gx_ck_some hf
                        refine gx_sld C hX hbl hbA hi112 d_Law_law_761 ?_
                        obtain ⟨r113, x113, hc113, hf⟩ := gx_bd_some hf
                        refine gx_cVi (n2 := n + 2) (k2 := k + 12) C (As := [.int (xs (a.1 + 1 : Int32).toNatClampNeg), .int (xs (a.1 + 2 : Int32).toNatClampNeg)]) (rest := []) 29 2 (c_CaseLayoutModel_exit K.l (xs (a.1 + 1 : Int32).toNatClampNeg) (xs (a.1 + 2 : Int32).toNatClampNeg) x110 _ hc113) (Or.inl rfl) rfl (gx_goodV gw_818 gw_819 gw_820 gw_10 gw_821) (by decide +kernel) (gx_w29 E _) rfl (by rw [hR]; decide) rfl rfl (Nat.le_of_ble_eq_true rfl) d_Law_law_762 (by rw [hR]; exact ⟨(by show n + 2 + 0 ≤ 601024; omega), (by show k + 12 + 0 ≤ 7293000; omega)⟩) (show n + 2 + 0 = n + 2 by omega) (show k + 12 + 0 = k + 12 by omega) ?_
                        refine gx_istore C (lv' := [(6, .int r113), (5, .int r110), (0, .ref b), (1, .ref (gx_ad E 28)), (2, .ref (gx_ad E 29)), (3, .ref (gx_ad E 48)), (4, .int a.1)]) d_Law_law_765 (by decide) rfl ?_
                        refine gx_aload_n C 4 d_Law_law_767 rfl rfl ?_
                        obtain ⟨r114, x114, hc114, hf⟩ := gx_bd_some hf
                        refine gx_cVi (n2 := n + 2) (k2 := k + 12) C (As := []) (rest := []) 29 0 (c_CaseLayoutModel_thrown K.l  x113 _ hc114) (Or.inl rfl) rfl (gx_goodV gw_759 gw_760 gw_761 gw_10 gw_762) (by decide +kernel) (gx_w29 E _) rfl (by rw [hR]; decide) rfl rfl (Nat.le_of_ble_eq_true rfl) d_Law_law_768 (by rw [hR]; exact ⟨(by show n + 2 + 0 ≤ 601024; omega), (by show k + 12 + 0 ≤ 7293000; omega)⟩) (show n + 2 + 0 = n + 2 by omega) (show k + 12 + 0 = k + 12 by omega) ?_
                        refine gx_iload C 1 d_Law_law_771 rfl ?_
                        refine gx_icmp_eq (tgt := 778) C d_Law_law_773 (by decide) (fun h115 => ?_) (fun h115 => ?_)
                        · have hf := (if_pos h115).symm.trans hf
                          refine gx_iload C 1 d_Law_law_778 rfl ?_
                          refine gx_if_ne (tgt := 795) C d_Law_law_780 (by decide) (fun h116 => ?_) (fun h116 => ?_)
                          · have hf := (if_neg h116).symm.trans hf
                            refine gx_goto (tgt := 1203) C d_Law_law_795 (by decide) ?_
                            refine gx_iinc C (v := a.1 + 4) (lv' := [(4, .int (a.1 + 4)), (6, .int r113), (5, .int r110), (0, .ref b), (1, .ref (gx_ad E 28)), (2, .ref (gx_ad E 29)), (3, .ref (gx_ad E 48))]) 6 d_Law_law_1203 rfl rfl (by decide) rfl ?_
                            refine gx_goto (tgt := 43) C d_Law_law_1206 (by decide) ?_
                            cases hf
                            refine gx_widen (n' := n + 4) (k' := k + 24) (by omega) (by omega) ?_
                            refine gx_lv (lv' := [(0, .ref b), (1, .ref (gx_ad E 28)), (2, .ref (gx_ad E 29)), (3, .ref (gx_ad E 48)), (4, .int (a.1 + 4))]) [3, 4, 5, 6, 0] rfl ?_
                            exact hk
                          · have hf := (if_pos h116).symm.trans hf
                            refine gx_aload_n C 5 d_Law_law_783 rfl rfl ?_
                            refine gx_iconst C (v := 0) d_Law_law_784 (by decide) ?_
                            obtain ⟨hi117, hf⟩ := gx_ck_some hf
                            refine gx_lald C 48 2 (gx_w48 E _) rfl hi117 d_Law_law_785 ?_
                            refine gx_iload C 0 d_Law_law_786 rfl ?_
                            refine gx_i2l C d_Law_law_788 rfl ?_
                            refine gx_lcmp C d_Law_law_789 ?_
                            refine gx_if_eq (tgt := 795) C d_Law_law_790 (by decide) (fun h118 => ?_) (fun h118 => ?_)
                            · have hf := (if_pos h118).symm.trans hf
                              refine gx_goto (tgt := 1203) C d_Law_law_795 (by decide) ?_
                              refine gx_iinc C (v := a.1 + 4) (lv' := [(4, .int (a.1 + 4)), (6, .int r113), (5, .int r110), (0, .ref b), (1, .ref (gx_ad E 28)), (2, .ref (gx_ad E 29)), (3, .ref (gx_ad E 48))]) 6 d_Law_law_1203 rfl rfl (by decide) rfl ?_
                              refine gx_goto (tgt := 43) C d_Law_law_1206 (by decide) ?_
                              cases hf
                              refine gx_widen (n' := n + 4) (k' := k + 24) (by omega) (by omega) ?_
                              refine gx_lv (lv' := [(0, .ref b), (1, .ref (gx_ad E 28)), (2, .ref (gx_ad E 29)), (3, .ref (gx_ad E 48)), (4, .int (a.1 + 4))]) [3, 4, 5, 6, 0] rfl ?_
                              exact hk
                            · have hf := (if_neg h118).symm.trans hf
                              cases hf
                              have hk : pq_law_43 K E b (n + 4) (k + 24)  _ := hk
                              unfold pq_law_43 at hk
                              have hk := gx_ifn (by decide : ¬ ((15 : Nat) = 0)) hk
                              have hk := gx_ifn (by decide : ¬ ((15 : Nat) = 1)) hk
                              have hk := gx_ifn (by decide : ¬ ((15 : Nat) = 2)) hk
                              have hk := gx_ifn (by decide : ¬ ((15 : Nat) = 3)) hk
                              have hk := gx_ifn (by decide : ¬ ((15 : Nat) = 4)) hk
                              have hk := gx_ifn (by decide : ¬ ((15 : Nat) = 5)) hk
                              have hk := gx_ifn (by decide : ¬ ((15 : Nat) = 6)) hk
                              have hk := gx_ifn (by decide : ¬ ((15 : Nat) = 7)) hk
                              have hk := gx_ifn (by decide : ¬ ((15 : Nat) = 8)) hk
                              have hk := gx_ifn (by decide : ¬ ((15 : Nat) = 9)) hk
                              have hk := gx_ifn (by decide : ¬ ((15 : Nat) = 10)) hk
                              have hk := gx_ifn (by decide : ¬ ((15 : Nat) = 11)) hk
                              have hk := gx_ifn (by decide : ¬ ((15 : Nat) = 12)) hk
                              have hk := gx_ifn (by decide : ¬ ((15 : Nat) = 13)) hk
                              have hk := gx_ifn (by decide : ¬ ((15 : Nat) = 14)) hk
                              refine gx_widen (n' := n + 4) (k' := k + 24) (by omega) (by omega) ?_
                              have hk := gx_ifp (rfl : (15 : Nat) = 15) hk
                              refine gx_lv (lv' := []) [] rfl ?_
                              exact hk
                        · have hf := (if_neg h115).symm.trans hf
                          cases hf
                          have hk : pq_law_43 K E b (n + 4) (k + 24)  _ := hk
                          unfold pq_law_43 at hk
                          have hk := gx_ifn (by decide : ¬ ((14 : Nat) = 0)) hk
                          have hk := gx_ifn (by decide : ¬ ((14 : Nat) = 1)) hk
                          have hk := gx_ifn (by decide : ¬ ((14 : Nat) = 2)) hk
                          have hk := gx_ifn (by decide : ¬ ((14 : Nat) = 3)) hk
                          have hk := gx_ifn (by decide : ¬ ((14 : Nat) = 4)) hk
                          have hk := gx_ifn (by decide : ¬ ((14 : Nat) = 5)) hk
                          have hk := gx_ifn (by decide : ¬ ((14 : Nat) = 6)) hk
                          have hk := gx_ifn (by decide : ¬ ((14 : Nat) = 7)) hk
                          have hk := gx_ifn (by decide : ¬ ((14 : Nat) = 8)) hk
                          have hk := gx_ifn (by decide : ¬ ((14 : Nat) = 9)) hk
                          have hk := gx_ifn (by decide : ¬ ((14 : Nat) = 10)) hk
                          have hk := gx_ifn (by decide : ¬ ((14 : Nat) = 11)) hk
                          have hk := gx_ifn (by decide : ¬ ((14 : Nat) = 12)) hk
                          have hk := gx_ifn (by decide : ¬ ((14 : Nat) = 13)) hk
                          refine gx_widen (n' := n + 4) (k' := k + 24) (by omega) (by omega) ?_
                          have hk := gx_ifp (rfl : (14 : Nat) = 14) hk
                          refine gx_lv (lv' := []) [] rfl ?_
                          exact hk
                      · have hf := (if_neg h107).symm.trans hf
                        by_cases h119 : ((xs (a.1 : Int32).toNatClampNeg) &&& 15) = 8
                        · have hf := (if_pos h119).symm.trans hf
                          refine gx_tabIn (tgt := 798) (off := 739) C d_Law_law_59 (gx_tnl h3) (gx_tng (a := 15) (by decide) h4) (by rw [h119]; rfl) (by decide) ?_
                          refine gx_aload_n C 1 d_Law_law_798 rfl rfl ?_
                          refine gx_aload_n C 0 d_Law_law_799 rfl rfl ?_
                          refine gx_iload C 4 d_Law_law_800 rfl ?_
                          refine gx_iconst C (v := 1) d_Law_law_802 (by decide) ?_
                          refine gx_iadd C d_Law_law_803 ?_
                          obtain ⟨hi120, hf⟩ := gx_ck_some hf
                          refine gx_sld C hX hbl hbA hi120 d_Law_law_804 ?_
                          refine gx_aload_n C 3 d_Law_law_805 rfl rfl ?_
                          obtain ⟨r121, x121, hc121, hf⟩ := gx_bd_some hf
                          refine gx_cSWi (n2 := n + 1) (k2 := k + 6) C (As := [.ref (gx_ad E 28), .int (xs (a.1 + 1 : Int32).toNatClampNeg), .ref (gx_ad E 48)]) (rest := []) 3 (c_CaseLayoutLaw_most K.l hlt (xs (a.1 + 1 : Int32).toNatClampNeg) a.2 _ hc121) (Or.inl rfl) rfl gw_506 gw_507 gw_0 gw_508 (by decide +kernel) (by rw [hR]; decide) rfl rfl (Nat.le_of_ble_eq_true rfl) d_Law_law_806 (by rw [hR]; exact ⟨(by show n + 0 + 1 ≤ 601024; omega), (by show k + 0 + 6 ≤ 7293000; omega)⟩) (show n + 0 + 1 = n + 1 by omega) (show k + 0 + 6 = k + 6 by omega) ?_
                          refine gx_istore C (lv' := [(5, .int r121), (0, .ref b), (1, .ref (gx_ad E 28)), (2, .ref (gx_ad E 29)), (3, .ref (gx_ad E 48)), (4, .int a.1)]) d_Law_law_809 (by decide) rfl ?_
                          refine gx_aload_n C 3 d_Law_law_811 rfl rfl ?_
                          refine gx_aload_n C 1 d_Law_law_812 rfl rfl ?_
                          refine gx_iload C 5 d_Law_law_813 rfl ?_
                          refine gx_iconst C (v := 1) d_Law_law_815 (by decide) ?_
                          refine gx_iadd C d_Law_law_816 ?_
                          obtain ⟨hi122, hf⟩ := gx_ck_some hf
                          refine gx_sld C hX hbl hbA hi122 d_Law_law_817 ?_
                          obtain ⟨r123, x123, hc123, hf⟩ := gx_bd_some hf
                          refine gx_cVi (n2 := n + 1) (k2 := k + 6) C (As := [.int (xs (a.1 + 1 : Int32).toNatClampNeg)]) (rest := []) 29 1 (c_CaseLayoutModel_most K.l (xs (a.1 + 1 : Int32).toNatClampNeg) x121 _ hc123) (Or.inl rfl) rfl (gx_goodV gw_822 gw_823 gw_824 gw_10 gw_825) (by decide +kernel) (gx_w29 E _) rfl (by rw [hR]; decide) rfl rfl (Nat.le_of_ble_eq_true rfl) d_Law_law_818 (by rw [hR]; exact ⟨(by show n + 1 + 0 ≤ 601024; omega), (by show k + 6 + 0 ≤ 7293000; omega)⟩) (show n + 1 + 0 = n + 1 by omega) (show k + 6 + 0 = k + 6 by omega) ?_
                          refine gx_istore C (lv' := [(6, .int r123), (5, .int r121), (0, .ref b), (1, .ref (gx_ad E 28)), (2, .ref (gx_ad E 29)), (3, .ref (gx_ad E 48)), (4, .int a.1)]) d_Law_law_821 (by decide) rfl ?_
                          refine gx_aload_n C 4 d_Law_law_823 rfl rfl ?_
                          obtain ⟨r124, x124, hc124, hf⟩ := gx_bd_some hf
                          refine gx_cVi (n2 := n + 1) (k2 := k + 6) C (As := []) (rest := []) 29 0 (c_CaseLayoutModel_thrown K.l  x123 _ hc124) (Or.inl rfl) rfl (gx_goodV gw_759 gw_760 gw_761 gw_10 gw_762) (by decide +kernel) (gx_w29 E _) rfl (by rw [hR]; decide) rfl rfl (Nat.le_of_ble_eq_true rfl) d_Law_law_824 (by rw [hR]; exact ⟨(by show n + 1 + 0 ≤ 601024; omega), (by show k + 6 + 0 ≤ 7293000; omega)⟩) (show n + 1 + 0 = n + 1 by omega) (show k + 6 + 0 = k + 6 by omega) ?_
                          refine gx_iload C 1 d_Law_law_827 rfl ?_
                          refine gx_icmp_eq (tgt := 834) C d_Law_law_829 (by decide) (fun h125 => ?_) (fun h125 => ?_)
                          · have hf := (if_pos h125).symm.trans hf
                            refine gx_iload C 1 d_Law_law_834 rfl ?_
                            refine gx_if_ne (tgt := 851) C d_Law_law_836 (by decide) (fun h126 => ?_) (fun h126 => ?_)
                            · have hf := (if_neg h126).symm.trans hf
                              refine gx_goto (tgt := 1203) C d_Law_law_851 (by decide) ?_
                              refine gx_iinc C (v := a.1 + 4) (lv' := [(4, .int (a.1 + 4)), (6, .int r123), (5, .int r121), (0, .ref b), (1, .ref (gx_ad E 28)), (2, .ref (gx_ad E 29)), (3, .ref (gx_ad E 48))]) 6 d_Law_law_1203 rfl rfl (by decide) rfl ?_
                              refine gx_goto (tgt := 43) C d_Law_law_1206 (by decide) ?_
                              cases hf
                              refine gx_widen (n' := n + 4) (k' := k + 24) (by omega) (by omega) ?_
                              refine gx_lv (lv' := [(0, .ref b), (1, .ref (gx_ad E 28)), (2, .ref (gx_ad E 29)), (3, .ref (gx_ad E 48)), (4, .int (a.1 + 4))]) [3, 4, 5, 6, 0] rfl ?_
                              exact hk
                            · have hf := (if_pos h126).symm.trans hf
                              refine gx_aload_n C 5 d_Law_law_839 rfl rfl ?_
                              refine gx_iconst C (v := 0) d_Law_law_840 (by decide) ?_
                              obtain ⟨hi127, hf⟩ := gx_ck_some hf
                              refine gx_lald C 48 2 (gx_w48 E _) rfl hi127 d_Law_law_841 ?_
                              refine gx_iload C 0 d_Law_law_842 rfl ?_
                              refine gx_i2l C d_Law_law_844 rfl ?_
                              refine gx_lcmp C d_Law_law_845 ?_
                              refine gx_if_eq (tgt := 851) C d_Law_law_846 (by decide) (fun h128 => ?_) (fun h128 => ?_)
                              · have hf := (if_pos h128).symm.trans hf
                                refine gx_goto (tgt := 1203) C d_Law_law_851 (by decide) ?_
                                refine gx_iinc C (v := a.1 + 4) (lv' := [(4, .int (a.1 + 4)), (6, .int r123), (5, .int r121), (0, .ref b), (1, .ref (gx_ad E 28)), (2, .ref (gx_ad E 29)), (3, .ref (gx_ad E 48))]) 6 d_Law_law_1203 rfl rfl (by decide) rfl ?_
                                refine gx_goto (tgt := 43) C d_Law_law_1206 (by decide) ?_
                                cases hf
                                refine gx_widen (n' := n + 4) (k' := k + 24) (by omega) (by omega) ?_
                                refine gx_lv (lv' := [(0, .ref b), (1, .ref (gx_ad E 28)), (2, .ref (gx_ad E 29)), (3, .ref (gx_ad E 48)), (4, .int (a.1 + 4))]) [3, 4, 5, 6, 0] rfl ?_
                                exact hk
                              · have hf := (if_neg h128).symm.trans hf
                                cases hf
                                have hk : pq_law_43 K E b (n + 4) (k + 24)  _ := hk
                                unfold pq_law_43 at hk
                                have hk := gx_ifn (by decide : ¬ ((17 : Nat) = 0)) hk
                                have hk := gx_ifn (by decide : ¬ ((17 : Nat) = 1)) hk
                                have hk := gx_ifn (by decide : ¬ ((17 : Nat) = 2)) hk
                                have hk := gx_ifn (by decide : ¬ ((17 : Nat) = 3)) hk
                                have hk := gx_ifn (by decide : ¬ ((17 : Nat) = 4)) hk
                                have hk := gx_ifn (by decide : ¬ ((17 : Nat) = 5)) hk
                                have hk := gx_ifn (by decide : ¬ ((17 : Nat) = 6)) hk
                                have hk := gx_ifn (by decide : ¬ ((17 : Nat) = 7)) hk
                                have hk := gx_ifn (by decide : ¬ ((17 : Nat) = 8)) hk
                                have hk := gx_ifn (by decide : ¬ ((17 : Nat) = 9)) hk
                                have hk := gx_ifn (by decide : ¬ ((17 : Nat) = 10)) hk
                                have hk := gx_ifn (by decide : ¬ ((17 : Nat) = 11)) hk
                                have hk := gx_ifn (by decide : ¬ ((17 : Nat) = 12)) hk
                                have hk := gx_ifn (by decide : ¬ ((17 : Nat) = 13)) hk
                                have hk := gx_ifn (by decide : ¬ ((17 : Nat) = 14)) hk
                                have hk := gx_ifn (by decide : ¬ ((17 : Nat) = 15)) hk
                                have hk := gx_ifn (by decide : ¬ ((17 : Nat) = 16)) hk
                                refine gx_widen (n' := n + 4) (k' := k + 24) (by omega) (by omega) ?_
                                have hk := gx_ifp (rfl : (17 : Nat) = 17) hk
                                refine gx_lv (lv' := []) [] rfl ?_
                                exact hk
                          · have hf := (if_neg h125).symm.trans hf
                            cases hf
                            have hk : pq_law_43 K E b (n + 4) (k + 24)  _ := hk
                            unfold pq_law_43 at hk
                            have hk := gx_ifn (by decide : ¬ ((16 : Nat) = 0)) hk
                            have hk := gx_ifn (by decide : ¬ ((16 : Nat) = 1)) hk
                            have hk := gx_ifn (by decide : ¬ ((16 : Nat) = 2)) hk
                            have hk := gx_ifn (by decide : ¬ ((16 : Nat) = 3)) hk
                            have hk := gx_ifn (by decide : ¬ ((16 : Nat) = 4)) hk
                            have hk := gx_ifn (by decide : ¬ ((16 : Nat) = 5)) hk
                            have hk := gx_ifn (by decide : ¬ ((16 : Nat) = 6)) hk
                            have hk := gx_ifn (by decide : ¬ ((16 : Nat) = 7)) hk
                            have hk := gx_ifn (by decide : ¬ ((16 : Nat) = 8)) hk
                            have hk := gx_ifn (by decide : ¬ ((16 : Nat) = 9)) hk
                            have hk := gx_ifn (by decide : ¬ ((16 : Nat) = 10)) hk
                            have hk := gx_ifn (by decide : ¬ ((16 : Nat) = 11)) hk
                            have hk := gx_ifn (by decide : ¬ ((16 : Nat) = 12)) hk
                            have hk := gx_ifn (by decide : ¬ ((16 : Nat) = 13)) hk
                            have hk := gx_ifn (by decide : ¬ ((16 : Nat) = 14)) hk
                            have hk := gx_ifn (by decide : ¬ ((16 : Nat) = 15)) hk
                            refine gx_widen (n' := n + 4) (k' := k + 24) (by omega) (by omega) ?_
                            have hk := gx_ifp (rfl : (16 : Nat) = 16) hk
                            refine gx_lv (lv' := []) [] rfl ?_
                            exact hk
                        · have hf := (if_neg h119).symm.trans hf
                          by_cases h129 : ((xs (a.1 : Int32).toNatClampNeg) &&& 15) = 9
                          · have hf := (if_pos h129).symm.trans hf
                            refine gx_tabIn (tgt := 854) (off := 795) C d_Law_law_59 (gx_tnl h3) (gx_tng (a := 15) (by decide) h4) (by rw [h129]; rfl) (by decide) ?_
                            refine gx_aload_n C 1 d_Law_law_854 rfl rfl ?_
                            refine gx_aload_n C 0 d_Law_law_855 rfl rfl ?_
                            refine gx_iload C 4 d_Law_law_856 rfl ?_
                            refine gx_iconst C (v := 1) d_Law_law_858 (by decide) ?_
                            refine gx_iadd C d_Law_law_859 ?_
                            obtain ⟨hi130, hf⟩ := gx_ck_some hf
                            refine gx_sld C hX hbl hbA hi130 d_Law_law_860 ?_
                            refine gx_aload_n C 3 d_Law_law_861 rfl rfl ?_
                            obtain ⟨r131, x131, hc131, hf⟩ := gx_bd_some hf
                            refine gx_cSWi (n2 := n + 1) (k2 := k + 6) C (As := [.ref (gx_ad E 28), .int (xs (a.1 + 1 : Int32).toNatClampNeg), .ref (gx_ad E 48)]) (rest := []) 3 (c_CaseLayoutLaw_run K.l hlt (xs (a.1 + 1 : Int32).toNatClampNeg) a.2 _ hc131) (Or.inl rfl) rfl gw_513 gw_514 gw_0 gw_515 (by decide +kernel) (by rw [hR]; decide) rfl rfl (Nat.le_of_ble_eq_true rfl) d_Law_law_862 (by rw [hR]; exact ⟨(by show n + 0 + 1 ≤ 601024; omega), (by show k + 0 + 6 ≤ 7293000; omega)⟩) (show n + 0 + 1 = n + 1 by omega) (show k + 0 + 6 = k + 6 by omega) ?_
                            refine gx_istore C (lv' := [(5, .int r131), (0, .ref b), (1, .ref (gx_ad E 28)), (2, .ref (gx_ad E 29)), (3, .ref (gx_ad E 48)), (4, .int a.1)]) d_Law_law_865 (by decide) rfl ?_
                            refine gx_aload_n C 3 d_Law_law_867 rfl rfl ?_
                            refine gx_aload_n C 1 d_Law_law_868 rfl rfl ?_
                            refine gx_iload C 5 d_Law_law_869 rfl ?_
                            refine gx_iconst C (v := 1) d_Law_law_871 (by decide) ?_
                            refine gx_iadd C d_Law_law_872 ?_
                            obtain ⟨hi132, hf⟩ := gx_ck_some hf
                            refine gx_sld C hX hbl hbA hi132 d_Law_law_873 ?_
                            obtain ⟨r133, x133, hc133, hf⟩ := gx_bd_some hf
                            refine gx_cVi (n2 := n + 1) (k2 := k + 6) C (As := [.int (xs (a.1 + 1 : Int32).toNatClampNeg)]) (rest := []) 29 1 (c_CaseLayoutModel_run K.l (xs (a.1 + 1 : Int32).toNatClampNeg) x131 _ hc133) (Or.inl rfl) rfl (gx_goodV gw_826 gw_827 gw_828 gw_10 gw_829) (by decide +kernel) (gx_w29 E _) rfl (by rw [hR]; decide) rfl rfl (Nat.le_of_ble_eq_true rfl) d_Law_law_874 (by rw [hR]; exact ⟨(by show n + 1 + 0 ≤ 601024; omega), (by show k + 6 + 0 ≤ 7293000; omega)⟩) (show n + 1 + 0 = n + 1 by omega) (show k + 6 + 0 = k + 6 by omega) ?_
                            refine gx_istore C (lv' := [(6, .int r133), (5, .int r131), (0, .ref b), (1, .ref (gx_ad E 28)), (2, .ref (gx_ad E 29)), (3, .ref (gx_ad E 48)), (4, .int a.1)]) d_Law_law_877 (by decide) rfl ?_
                            refine gx_aload_n C 4 d_Law_law_879 rfl rfl ?_
                            obtain ⟨r134, x134, hc134, hf⟩ := gx_bd_some hf
                            refine gx_cVi (n2 := n + 1) (k2 := k + 6) C (As := []) (rest := []) 29 0 (c_CaseLayoutModel_thrown K.l  x133 _ hc134) (Or.inl rfl) rfl (gx_goodV gw_759 gw_760 gw_761 gw_10 gw_762) (by decide +kernel) (gx_w29 E _) rfl (by rw [hR]; decide) rfl rfl (Nat.le_of_ble_eq_true rfl) d_Law_law_880 (by rw [hR]; exact ⟨(by show n + 1 + 0 ≤ 601024; omega), (by show k + 6 + 0 ≤ 7293000; omega)⟩) (show n + 1 + 0 = n + 1 by omega) (show k + 6 + 0 = k + 6 by omega) ?_
                            refine gx_iload C 1 d_Law_law_883 rfl ?_
                            refine gx_icmp_eq (tgt := 890) C d_Law_law_885 (by decide) (fun h135 => ?_) (fun h135 => ?_)
                            · have hf := (if_pos h135).symm.trans hf
                              refine gx_iload C 1 d_Law_law_890 rfl ?_
                              refine gx_if_ne (tgt := 907) C d_Law_law_892 (by decide) (fun h136 => ?_) (fun h136 => ?_)
                              · have hf := (if_neg h136).symm.trans hf
                                refine gx_goto (tgt := 1203) C d_Law_law_907 (by decide) ?_
                                refine gx_iinc C (v := a.1 + 4) (lv' := [(4, .int (a.1 + 4)), (6, .int r133), (5, .int r131), (0, .ref b), (1, .ref (gx_ad E 28)), (2, .ref (gx_ad E 29)), (3, .ref (gx_ad E 48))]) 6 d_Law_law_1203 rfl rfl (by decide) rfl ?_
                                refine gx_goto (tgt := 43) C d_Law_law_1206 (by decide) ?_
                                cases hf
                                refine gx_widen (n' := n + 4) (k' := k + 24) (by omega) (by omega) ?_
                                refine gx_lv (lv' := [(0, .ref b), (1, .ref (gx_ad E 28)), (2, .ref (gx_ad E 29)), (3, .ref (gx_ad E 48)), (4, .int (a.1 + 4))]) [3, 4, 5, 6, 0] rfl ?_
                                exact hk
                              · have hf := (if_pos h136).symm.trans hf
                                refine gx_aload_n C 5 d_Law_law_895 rfl rfl ?_
                                refine gx_iconst C (v := 0) d_Law_law_896 (by decide) ?_
                                obtain ⟨hi137, hf⟩ := gx_ck_some hf
                                refine gx_lald C 48 2 (gx_w48 E _) rfl hi137 d_Law_law_897 ?_
                                refine gx_iload C 0 d_Law_law_898 rfl ?_
                                refine gx_i2l C d_Law_law_900 rfl ?_
                                refine gx_lcmp C d_Law_law_901 ?_
                                refine gx_if_eq (tgt := 907) C d_Law_law_902 (by decide) (fun h138 => ?_) (fun h138 => ?_)
                                · have hf := (if_pos h138).symm.trans hf
                                  refine gx_goto (tgt := 1203) C d_Law_law_907 (by decide) ?_
                                  refine gx_iinc C (v := a.1 + 4) (lv' := [(4, .int (a.1 + 4)), (6, .int r133), (5, .int r131), (0, .ref b), (1, .ref (gx_ad E 28)), (2, .ref (gx_ad E 29)), (3, .ref (gx_ad E 48))]) 6 d_Law_law_1203 rfl rfl (by decide) rfl ?_
                                  refine gx_goto (tgt := 43) C d_Law_law_1206 (by decide) ?_
                                  cases hf
                                  refine gx_widen (n' := n + 4) (k' := k + 24) (by omega) (by omega) ?_
                                  refine gx_lv (lv' := [(0, .ref b), (1, .ref (gx_ad E 28)), (2, .ref (gx_ad E 29)), (3, .ref (gx_ad E 48)), (4, .int (a.1 + 4))]) [3, 4, 5, 6, 0] rfl ?_
                                  exact hk
                                · have hf := (if_neg h138).symm.trans hf
                                  cases hf
                                  have hk : pq_law_43 K E b (n + 4) (k + 24)  _ := hk
                                  unfold pq_law_43 at hk
                                  have hk := gx_ifn (by decide : ¬ ((19 : Nat) = 0)) hk
                                  have hk := gx_ifn (by decide : ¬ ((19 : Nat) = 1)) hk
                                  have hk := gx_ifn (by decide : ¬ ((19 : Nat) = 2)) hk
                                  have hk := gx_ifn (by decide : ¬ ((19 : Nat) = 3)) hk
                                  have hk := gx_ifn (by decide : ¬ ((19 : Nat) = 4)) hk
                                  have hk := gx_ifn (by decide : ¬ ((19 : Nat) = 5)) hk
                                  have hk := gx_ifn (by decide : ¬ ((19 : Nat) = 6)) hk
                                  have hk := gx_ifn (by decide : ¬ ((19 : Nat) = 7)) hk
                                  have hk := gx_ifn (by decide : ¬ ((19 : Nat) = 8)) hk
                                  have hk := gx_ifn (by decide : ¬ ((19 : Nat) = 9)) hk
                                  have hk := gx_ifn (by decide : ¬ ((19 : Nat) = 10)) hk
                                  have hk := gx_ifn (by decide : ¬ ((19 : Nat) = 11)) hk
                                  have hk := gx_ifn (by decide : ¬ ((19 : Nat) = 12)) hk
                                  have hk := gx_ifn (by decide : ¬ ((19 : Nat) = 13)) hk
                                  have hk := gx_ifn (by decide : ¬ ((19 : Nat) = 14)) hk
                                  have hk := gx_ifn (by decide : ¬ ((19 : Nat) = 15)) hk
                                  have hk := gx_ifn (by decide : ¬ ((19 : Nat) = 16)) hk
                                  have hk := gx_ifn (by decide : ¬ ((19 : Nat) = 17)) hk
                                  have hk := gx_ifn (by decide : ¬ ((19 : Nat) = 18)) hk
                                  refine gx_widen (n' := n + 4) (k' := k + 24) (by omega) (by omega) ?_
                                  have hk := gx_ifp (rfl : (19 : Nat) = 19) hk
                                  refine gx_lv (lv' := []) [] rfl ?_
                                  exact hk
                            · have hf := (if_neg h135).symm.trans hf
                              cases hf
                              have hk : pq_law_43 K E b (n + 4) (k + 24)  _ := hk
                              unfold pq_law_43 at hk
                              have hk := gx_ifn (by decide : ¬ ((18 : Nat) = 0)) hk
                              have hk := gx_ifn (by decide : ¬ ((18 : Nat) = 1)) hk
                              have hk := gx_ifn (by decide : ¬ ((18 : Nat) = 2)) hk
                              have hk := gx_ifn (by decide : ¬ ((18 : Nat) = 3)) hk
                              have hk := gx_ifn (by decide : ¬ ((18 : Nat) = 4)) hk
                              have hk := gx_ifn (by decide : ¬ ((18 : Nat) = 5)) hk
                              have hk := gx_ifn (by decide : ¬ ((18 : Nat) = 6)) hk
                              have hk := gx_ifn (by decide : ¬ ((18 : Nat) = 7)) hk
                              have hk := gx_ifn (by decide : ¬ ((18 : Nat) = 8)) hk
                              have hk := gx_ifn (by decide : ¬ ((18 : Nat) = 9)) hk
                              have hk := gx_ifn (by decide : ¬ ((18 : Nat) = 10)) hk
                              have hk := gx_ifn (by decide : ¬ ((18 : Nat) = 11)) hk
                              have hk := gx_ifn (by decide : ¬ ((18 : Nat) = 12)) hk
                              have hk := gx_ifn (by decide : ¬ ((18 : Nat) = 13)) hk
                              have hk := gx_ifn (by decide : ¬ ((18 : Nat) = 14)) hk
                              have hk := gx_ifn (by decide : ¬ ((18 : Nat) = 15)) hk
                              have hk := gx_ifn (by decide : ¬ ((18 : Nat) = 16)) hk
                              have hk := gx_ifn (by decide : ¬ ((18 : Nat) = 17)) hk
                              refine gx_widen (n' := n + 4) (k' := k + 24) (by omega) (by omega) ?_
                              have hk := gx_ifp (rfl : (18 : Nat) = 18) hk
                              refine gx_lv (lv' := []) [] rfl ?_
                              exact hk
                          · have hf := (if_neg h129).symm.trans hf
                            by_cases h139 : ((xs (a.1 : Int32).toNatClampNeg) &&& 15) = 10
                            · have hf := (if_pos h139).symm.trans hf
                              refine gx_tabIn (tgt := 910) (off := 851) C d_Law_law_59 (gx_tnl h3) (gx_tng (a := 15) (by decide) h4) (by rw [h139]; rfl) (by decide) ?_
                              refine gx_aload_n C 1 d_Law_law_910 rfl rfl ?_
                              obtain ⟨r140, x140, hc140, hf⟩ := gx_bd_some hf
                              refine gx_cVi (n2 := n + 0) (k2 := k + 0) C (As := []) (rest := []) 28 0 (c_CaseLayout_nodes K.l  a.2 _ hc140) (Or.inl rfl) rfl (gx_goodV gw_265 gw_266 gw_267 gw_1 gw_268) (by decide +kernel) (gx_w28 E _) rfl (by rw [hR]; decide) rfl rfl (Nat.le_of_ble_eq_true rfl) d_Law_law_911 (by rw [hR]; exact ⟨(by show n + 0 + 0 ≤ 601024; omega), (by show k + 0 + 0 ≤ 7293000; omega)⟩) (show n + 0 + 0 = n + 0 by omega) (show k + 0 + 0 = k + 0 by omega) ?_
                              refine gx_aload_n C 2 d_Law_law_914 rfl rfl ?_
                              obtain ⟨r141, x141, hc141, hf⟩ := gx_bd_some hf
                              refine gx_cVi (n2 := n + 0) (k2 := k + 0) C (As := []) (rest := [.int r140]) 29 0 (c_CaseLayoutModel_nodes K.l  x140 _ hc141) (Or.inl rfl) rfl (gx_goodV gw_891 gw_892 gw_893 gw_10 gw_894) (by decide +kernel) (gx_w29 E _) rfl (by rw [hR]; decide) rfl rfl (Nat.le_of_ble_eq_true rfl) d_Law_law_915 (by rw [hR]; exact ⟨(by show n + 0 + 0 ≤ 601024; omega), (by show k + 0 + 0 ≤ 7293000; omega)⟩) (show n + 0 + 0 = n + 0 by omega) (show k + 0 + 0 = k + 0 by omega) ?_
                              refine gx_icmp_eq (tgt := 1203) C d_Law_law_918 (by decide) (fun h142 => ?_) (fun h142 => ?_)
                              · have hf := (if_pos h142).symm.trans hf
                                refine gx_iinc C (v := a.1 + 4) (lv' := [(4, .int (a.1 + 4)), (0, .ref b), (1, .ref (gx_ad E 28)), (2, .ref (gx_ad E 29)), (3, .ref (gx_ad E 48))]) 4 d_Law_law_1203 rfl rfl (by decide) rfl ?_
                                refine gx_goto (tgt := 43) C d_Law_law_1206 (by decide) ?_
                                cases hf
                                refine gx_widen (n' := n + 4) (k' := k + 24) (by omega) (by omega) ?_
                                refine gx_lv (lv' := [(0, .ref b), (1, .ref (gx_ad E 28)), (2, .ref (gx_ad E 29)), (3, .ref (gx_ad E 48)), (4, .int (a.1 + 4))]) [1, 2, 3, 4, 0] rfl ?_
                                exact hk
                              · have hf := (if_neg h142).symm.trans hf
                                cases hf
                                have hk : pq_law_43 K E b (n + 4) (k + 24)  _ := hk
                                unfold pq_law_43 at hk
                                have hk := gx_ifn (by decide : ¬ ((20 : Nat) = 0)) hk
                                have hk := gx_ifn (by decide : ¬ ((20 : Nat) = 1)) hk
                                have hk := gx_ifn (by decide : ¬ ((20 : Nat) = 2)) hk
                                have hk := gx_ifn (by decide : ¬ ((20 : Nat) = 3)) hk
                                have hk := gx_ifn (by decide : ¬ ((20 : Nat) = 4)) hk
                                have hk := gx_ifn (by decide : ¬ ((20 : Nat) = 5)) hk
                                have hk := gx_ifn (by decide : ¬ ((20 : Nat) = 6)) hk
                                have hk := gx_ifn (by decide : ¬ ((20 : Nat) = 7)) hk
                                have hk := gx_ifn (by decide : ¬ ((20 : Nat) = 8)) hk
                                have hk := gx_ifn (by decide : ¬ ((20 : Nat) = 9)) hk
                                have hk := gx_ifn (by decide : ¬ ((20 : Nat) = 10)) hk
                                have hk := gx_ifn (by decide : ¬ ((20 : Nat) = 11)) hk
                                have hk := gx_ifn (by decide : ¬ ((20 : Nat) = 12)) hk
                                have hk := gx_ifn (by decide : ¬ ((20 : Nat) = 13)) hk
                                have hk := gx_ifn (by decide : ¬ ((20 : Nat) = 14)) hk
                                have hk := gx_ifn (by decide : ¬ ((20 : Nat) = 15)) hk
                                have hk := gx_ifn (by decide : ¬ ((20 : Nat) = 16)) hk
                                have hk := gx_ifn (by decide : ¬ ((20 : Nat) = 17)) hk
                                have hk := gx_ifn (by decide : ¬ ((20 : Nat) = 18)) hk
                                have hk := gx_ifn (by decide : ¬ ((20 : Nat) = 19)) hk
                                refine gx_widen (n' := n + 4) (k' := k + 24) (by omega) (by omega) ?_
                                have hk := gx_ifp (rfl : (20 : Nat) = 20) hk
                                refine gx_lv (lv' := []) [] rfl ?_
                                exact hk
                            · have hf := (if_neg h139).symm.trans hf
                              by_cases h143 : ((xs (a.1 : Int32).toNatClampNeg) &&& 15) = 11
                              · have hf := (if_pos h143).symm.trans hf
                                refine gx_tabIn (tgt := 923) (off := 864) C d_Law_law_59 (gx_tnl h3) (gx_tng (a := 15) (by decide) h4) (by rw [h143]; rfl) (by decide) ?_
                                refine gx_aload_n C 1 d_Law_law_923 rfl rfl ?_
                                refine gx_aload_n C 0 d_Law_law_924 rfl rfl ?_
                                refine gx_iload C 4 d_Law_law_925 rfl ?_
                                refine gx_iconst C (v := 1) d_Law_law_927 (by decide) ?_
                                refine gx_iadd C d_Law_law_928 ?_
                                obtain ⟨hi144, hf⟩ := gx_ck_some hf
                                refine gx_sld C hX hbl hbA hi144 d_Law_law_929 ?_
                                refine gx_aload_n C 0 d_Law_law_930 rfl rfl ?_
                                refine gx_iload C 4 d_Law_law_931 rfl ?_
                                refine gx_iconst C (v := 2) d_Law_law_933 (by decide) ?_
                                refine gx_iadd C d_Law_law_934 ?_
                                obtain ⟨hi145, hf⟩ := gx_ck_some hf
                                refine gx_sld C hX hbl hbA hi145 d_Law_law_935 ?_
                                refine gx_aload_n C 3 d_Law_law_936 rfl rfl ?_
                                obtain ⟨r146, x146, hc146, hf⟩ := gx_bd_some hf
                                refine gx_cSWi (n2 := n + 2) (k2 := k + 12) C (As := [.ref (gx_ad E 28), .int (xs (a.1 + 1 : Int32).toNatClampNeg), .int (xs (a.1 + 2 : Int32).toNatClampNeg), .ref (gx_ad E 48)]) (rest := []) 4 (c_CaseLayoutLaw_at K.l hlt (xs (a.1 + 1 : Int32).toNatClampNeg) (xs (a.1 + 2 : Int32).toNatClampNeg) a.2 _ hc146) (Or.inl rfl) rfl gw_627 gw_628 gw_0 gw_629 (by decide +kernel) (by rw [hR]; decide) rfl rfl (Nat.le_of_ble_eq_true rfl) d_Law_law_937 (by rw [hR]; exact ⟨(by show n + 0 + 2 ≤ 601024; omega), (by show k + 0 + 12 ≤ 7293000; omega)⟩) (show n + 0 + 2 = n + 2 by omega) (show k + 0 + 12 = k + 12 by omega) ?_
                                refine gx_istore C (lv' := [(5, .int r146), (0, .ref b), (1, .ref (gx_ad E 28)), (2, .ref (gx_ad E 29)), (3, .ref (gx_ad E 48)), (4, .int a.1)]) d_Law_law_940 (by decide) rfl ?_
                                refine gx_aload_n C 3 d_Law_law_942 rfl rfl ?_
                                refine gx_aload_n C 1 d_Law_law_943 rfl rfl ?_
                                refine gx_iload C 5 d_Law_law_944 rfl ?_
                                refine gx_iconst C (v := 1) d_Law_law_946 (by decide) ?_
                                refine gx_iadd C d_Law_law_947 ?_
                                obtain ⟨hi147, hf⟩ := gx_ck_some hf
                                refine gx_sld C hX hbl hbA hi147 d_Law_law_948 ?_
                                refine gx_aload_n C 1 d_Law_law_949 rfl rfl ?_
                                refine gx_iload C 5 d_Law_law_950 rfl ?_
                                refine gx_iconst C (v := 2) d_Law_law_952 (by decide) ?_
                                refine gx_iadd C d_Law_law_953 ?_
                                obtain ⟨hi148, hf⟩ := gx_ck_some hf
                                refine gx_sld C hX hbl hbA hi148 d_Law_law_954 ?_
                                obtain ⟨r149, x149, hc149, hf⟩ := gx_bd_some hf
                                refine gx_cVi (n2 := n + 2) (k2 := k + 12) C (As := [.int (xs (a.1 + 1 : Int32).toNatClampNeg), .int (xs (a.1 + 2 : Int32).toNatClampNeg)]) (rest := []) 29 2 (c_CaseLayoutModel_at K.l (xs (a.1 + 1 : Int32).toNatClampNeg) (xs (a.1 + 2 : Int32).toNatClampNeg) x146 _ hc149) (Or.inl rfl) rfl (gx_goodV gw_895 gw_896 gw_897 gw_10 gw_898) (by decide +kernel) (gx_w29 E _) rfl (by rw [hR]; decide) rfl rfl (Nat.le_of_ble_eq_true rfl) d_Law_law_955 (by rw [hR]; exact ⟨(by show n + 2 + 0 ≤ 601024; omega), (by show k + 12 + 0 ≤ 7293000; omega)⟩) (show n + 2 + 0 = n + 2 by omega) (show k + 12 + 0 = k + 12 by omega) ?_
                                refine gx_istore C (lv' := [(6, .int r149), (5, .int r146), (0, .ref b), (1, .ref (gx_ad E 28)), (2, .ref (gx_ad E 29)), (3, .ref (gx_ad E 48)), (4, .int a.1)]) d_Law_law_958 (by decide) rfl ?_
                                refine gx_aload_n C 4 d_Law_law_960 rfl rfl ?_
                                obtain ⟨r150, x150, hc150, hf⟩ := gx_bd_some hf
                                refine gx_cVi (n2 := n + 2) (k2 := k + 12) C (As := []) (rest := []) 29 0 (c_CaseLayoutModel_thrown K.l  x149 _ hc150) (Or.inl rfl) rfl (gx_goodV gw_759 gw_760 gw_761 gw_10 gw_762) (by decide +kernel) (gx_w29 E _) rfl (by rw [hR]; decide) rfl rfl (Nat.le_of_ble_eq_true rfl) d_Law_law_961 (by rw [hR]; exact ⟨(by show n + 2 + 0 ≤ 601024; omega), (by show k + 12 + 0 ≤ 7293000; omega)⟩) (show n + 2 + 0 = n + 2 by omega) (show k + 12 + 0 = k + 12 by omega) ?_
                                refine gx_iload C 1 d_Law_law_964 rfl ?_
                                refine gx_icmp_eq (tgt := 971) C d_Law_law_966 (by decide) (fun h151 => ?_) (fun h151 => ?_)
                                · have hf := (if_pos h151).symm.trans hf
                                  refine gx_iload C 1 d_Law_law_971 rfl ?_
                                  refine gx_if_ne (tgt := 988) C d_Law_law_973 (by decide) (fun h152 => ?_) (fun h152 => ?_)
                                  · have hf := (if_neg h152).symm.trans hf
                                    refine gx_goto (tgt := 1203) C d_Law_law_988 (by decide) ?_
                                    refine gx_iinc C (v := a.1 + 4) (lv' := [(4, .int (a.1 + 4)), (6, .int r149), (5, .int r146), (0, .ref b), (1, .ref (gx_ad E 28)), (2, .ref (gx_ad E 29)), (3, .ref (gx_ad E 48))]) 6 d_Law_law_1203 rfl rfl (by decide) rfl ?_
                                    refine gx_goto (tgt := 43) C d_Law_law_1206 (by decide) ?_
                                    cases hf
                                    refine gx_widen (n' := n + 4) (k' := k + 24) (by omega) (by omega) ?_
                                    refine gx_lv (lv' := [(0, .ref b), (1, .ref (gx_ad E 28)), (2, .ref (gx_ad E 29)), (3, .ref (gx_ad E 48)), (4, .int (a.1 + 4))]) [3, 4, 5, 6, 0] rfl ?_
                                    exact hk
                                  · have hf := (if_pos h152).symm.trans hf
                                    refine gx_aload_n C 5 d_Law_law_976 rfl rfl ?_
                                    refine gx_iconst C (v := 0) d_Law_law_977 (by decide) ?_
                                    obtain ⟨hi153, hf⟩ := gx_ck_some hf
                                    refine gx_lald C 48 2 (gx_w48 E _) rfl hi153 d_Law_law_978 ?_
                                    refine gx_iload C 0 d_Law_law_979 rfl ?_
                                    refine gx_i2l C d_Law_law_981 rfl ?_
                                    refine gx_lcmp C d_Law_law_982 ?_
                                    refine gx_if_eq (tgt := 988) C d_Law_law_983 (by decide) (fun h154 => ?_) (fun h154 => ?_)
                                    · have hf := (if_pos h154).symm.trans hf
                                      refine gx_goto (tgt := 1203) C d_Law_law_988 (by decide) ?_
                                      refine gx_iinc C (v := a.1 + 4) (lv' := [(4, .int (a.1 + 4)), (6, .int r149), (5, .int r146), (0, .ref b), (1, .ref (gx_ad E 28)), (2, .ref (gx_ad E 29)), (3, .ref (gx_ad E 48))]) 6 d_Law_law_1203 rfl rfl (by decide) rfl ?_
                                      refine gx_goto (tgt := 43) C d_Law_law_1206 (by decide) ?_
                                      cases hf
                                      refine gx_widen (n' := n + 4) (k' := k + 24) (by omega) (by omega) ?_
                                      refine gx_lv (lv' := [(0, .ref b), (1, .ref (gx_ad E 28)), (2, .ref (gx_ad E 29)), (3, .ref (gx_ad E 48)), (4, .int (a.1 + 4))]) [3, 4, 5, 6, 0] rfl ?_
                                      exact hk
                                    · have hf := (if_neg h154).symm.trans hf
                                      cases hf
                                      have hk : pq_law_43 K E b (n + 4) (k + 24)  _ := hk
                                      unfold pq_law_43 at hk
                                      have hk := gx_ifn (by decide : ¬ ((22 : Nat) = 0)) hk
                                      have hk := gx_ifn (by decide : ¬ ((22 : Nat) = 1)) hk
                                      have hk := gx_ifn (by decide : ¬ ((22 : Nat) = 2)) hk
                                      have hk := gx_ifn (by decide : ¬ ((22 : Nat) = 3)) hk
                                      have hk := gx_ifn (by decide : ¬ ((22 : Nat) = 4)) hk
                                      have hk := gx_ifn (by decide : ¬ ((22 : Nat) = 5)) hk
                                      have hk := gx_ifn (by decide : ¬ ((22 : Nat) = 6)) hk
                                      have hk := gx_ifn (by decide : ¬ ((22 : Nat) = 7)) hk
                                      have hk := gx_ifn (by decide : ¬ ((22 : Nat) = 8)) hk
                                      have hk := gx_ifn (by decide : ¬ ((22 : Nat) = 9)) hk
                                      have hk := gx_ifn (by decide : ¬ ((22 : Nat) = 10)) hk
                                      have hk := gx_ifn (by decide : ¬ ((22 : Nat) = 11)) hk
                                      have hk := gx_ifn (by decide : ¬ ((22 : Nat) = 12)) hk
                                      have hk := gx_ifn (by decide : ¬ ((22 : Nat) = 13)) hk
                                      have hk := gx_ifn (by decide : ¬ ((22 : Nat) = 14)) hk
                                      have hk := gx_ifn (by decide : ¬ ((22 : Nat) = 15)) hk
                                      have hk := gx_ifn (by decide : ¬ ((22 : Nat) = 16)) hk
                                      have hk := gx_ifn (by decide : ¬ ((22 : Nat) = 17)) hk
                                      have hk := gx_ifn (by decide : ¬ ((22 : Nat) = 18)) hk
                                      have hk := gx_ifn (by decide : ¬ ((22 : Nat) = 19)) hk
                                      have hk := gx_ifn (by decide : ¬ ((22 : Nat) = 20)) hk
                                      have hk := gx_ifn (by decide : ¬ ((22 : Nat) = 21)) hk
                                      refine gx_widen (n' := n + 4) (k' := k + 24) (by omega) (by omega) ?_
                                      have hk := gx_ifp (rfl : (22 : Nat) = 22) hk
                                      refine gx_lv (lv' := []) [] rfl ?_
                                      exact hk
                                · have hf := (if_neg h151).symm.trans hf
                                  cases hf
                                  have hk : pq_law_43 K E b (n + 4) (k + 24)  _ := hk
                                  unfold pq_law_43 at hk
                                  have hk := gx_ifn (by decide : ¬ ((21 : Nat) = 0)) hk
                                  have hk := gx_ifn (by decide : ¬ ((21 : Nat) = 1)) hk
                                  have hk := gx_ifn (by decide : ¬ ((21 : Nat) = 2)) hk
                                  have hk := gx_ifn (by decide : ¬ ((21 : Nat) = 3)) hk
                                  have hk := gx_ifn (by decide : ¬ ((21 : Nat) = 4)) hk
                                  have hk := gx_ifn (by decide : ¬ ((21 : Nat) = 5)) hk
                                  have hk := gx_ifn (by decide : ¬ ((21 : Nat) = 6)) hk
                                  have hk := gx_ifn (by decide : ¬ ((21 : Nat) = 7)) hk
                                  have hk := gx_ifn (by decide : ¬ ((21 : Nat) = 8)) hk
                                  have hk := gx_ifn (by decide : ¬ ((21 : Nat) = 9)) hk
                                  have hk := gx_ifn (by decide : ¬ ((21 : Nat) = 10)) hk
                                  have hk := gx_ifn (by decide : ¬ ((21 : Nat) = 11)) hk
                                  have hk := gx_ifn (by decide : ¬ ((21 : Nat) = 12)) hk
                                  have hk := gx_ifn (by decide : ¬ ((21 : Nat) = 13)) hk
                                  have hk := gx_ifn (by decide : ¬ ((21 : Nat) = 14)) hk
                                  have hk := gx_ifn (by decide : ¬ ((21 : Nat) = 15)) hk
                                  have hk := gx_ifn (by decide : ¬ ((21 : Nat) = 16)) hk
                                  have hk := gx_ifn (by decide : ¬ ((21 : Nat) = 17)) hk
                                  have hk := gx_ifn (by decide : ¬ ((21 : Nat) = 18)) hk
                                  have hk := gx_ifn (by decide : ¬ ((21 : Nat) = 19)) hk
                                  have hk := gx_ifn (by decide : ¬ ((21 : Nat) = 20)) hk
                                  refine gx_widen (n' := n + 4) (k' := k + 24) (by omega) (by omega) ?_
                                  have hk := gx_ifp (rfl : (21 : Nat) = 21) hk
                                  refine gx_lv (lv' := []) [] rfl ?_
                                  exact hk
                              · have hf := (if_neg h143).symm.trans hf
                                by_cases h155 : ((xs (a.1 : Int32).toNatClampNeg) &&& 15) = 12
                                · have hf := (if_pos h155).symm.trans hf
                                  refine gx_tabIn (tgt := 991) (off := 932) C d_Law_law_59 (gx_tnl h3) (gx_tng (a := 15) (by decide) h4) (by rw [h155]; rfl) (by decide) ?_
                                  refine gx_aload_n C 1 d_Law_law_991 rfl rfl ?_
                                  obtain ⟨r156, x156, hc156, hf⟩ := gx_bd_some hf
                                  refine gx_cVi (n2 := n + 0) (k2 := k + 0) C (As := []) (rest := []) 28 0 (c_CaseLayout_worth K.l  a.2 _ hc156) (Or.inl rfl) rfl (gx_goodV gw_269 gw_270 gw_271 gw_1 gw_272) (by decide +kernel) (gx_w28 E _) rfl (by rw [hR]; decide) rfl rfl (Nat.le_of_ble_eq_true rfl) d_Law_law_992 (by rw [hR]; exact ⟨(by show n + 0 + 0 ≤ 601024; omega), (by show k + 0 + 0 ≤ 7293000; omega)⟩) (show n + 0 + 0 = n + 0 by omega) (show k + 0 + 0 = k + 0 by omega) ?_
                                  refine gx_aload_n C 2 d_Law_law_995 rfl rfl ?_
                                  obtain ⟨r157, x157, hc157, hf⟩ := gx_bd_some hf
                                  refine gx_cVi (n2 := n + 0) (k2 := k + 0) C (As := []) (rest := [.int r156]) 29 0 (c_CaseLayoutModel_worth K.l  x156 _ hc157) (Or.inl rfl) rfl (gx_goodV gw_899 gw_900 gw_901 gw_10 gw_902) (by decide +kernel) (gx_w29 E _) rfl (by rw [hR]; decide) rfl rfl (Nat.le_of_ble_eq_true rfl) d_Law_law_996 (by rw [hR]; exact ⟨(by show n + 0 + 0 ≤ 601024; omega), (by show k + 0 + 0 ≤ 7293000; omega)⟩) (show n + 0 + 0 = n + 0 by omega) (show k + 0 + 0 = k + 0 by omega) ?_
                                  refine gx_icmp_eq (tgt := 1203) C d_Law_law_999 (by decide) (fun h158 => ?_) (fun h158 => ?_)
                                  · have hf := (if_pos h158).symm.trans hf
                                    refine gx_iinc C (v := a.1 + 4) (lv' := [(4, .int (a.1 + 4)), (0, .ref b), (1, .ref (gx_ad E 28)), (2, .ref (gx_ad E 29)), (3, .ref (gx_ad E 48))]) 4 d_Law_law_1203 rfl rfl (by decide) rfl ?_
                                    refine gx_goto (tgt := 43) C d_Law_law_1206 (by decide) ?_
                                    cases hf
                                    refine gx_widen (n' := n + 4) (k' := k + 24) (by omega) (by omega) ?_
                                    refine gx_lv (lv' := [(0, .ref b), (1, .ref (gx_ad E 28)), (2, .ref (gx_ad E 29)), (3, .ref (gx_ad E 48)), (4, .int (a.1 + 4))]) [1, 2, 3, 4, 0] rfl ?_
                                    exact hk
                                  · have hf := (if_neg h158).symm.trans hf
                                    cases hf
                                    have hk : pq_law_43 K E b (n + 4) (k + 24)  _ := hk
                                    unfold pq_law_43 at hk
                                    have hk := gx_ifn (by decide : ¬ ((23 : Nat) = 0)) hk
                                    have hk := gx_ifn (by decide : ¬ ((23 : Nat) = 1)) hk
                                    have hk := gx_ifn (by decide : ¬ ((23 : Nat) = 2)) hk
                                    have hk := gx_ifn (by decide : ¬ ((23 : Nat) = 3)) hk
                                    have hk := gx_ifn (by decide : ¬ ((23 : Nat) = 4)) hk
                                    have hk := gx_ifn (by decide : ¬ ((23 : Nat) = 5)) hk
                                    have hk := gx_ifn (by decide : ¬ ((23 : Nat) = 6)) hk
                                    have hk := gx_ifn (by decide : ¬ ((23 : Nat) = 7)) hk
                                    have hk := gx_ifn (by decide : ¬ ((23 : Nat) = 8)) hk
                                    have hk := gx_ifn (by decide : ¬ ((23 : Nat) = 9)) hk
                                    have hk := gx_ifn (by decide : ¬ ((23 : Nat) = 10)) hk
                                    have hk := gx_ifn (by decide : ¬ ((23 : Nat) = 11)) hk
                                    have hk := gx_ifn (by decide : ¬ ((23 : Nat) = 12)) hk
                                    have hk := gx_ifn (by decide : ¬ ((23 : Nat) = 13)) hk
                                    have hk := gx_ifn (by decide : ¬ ((23 : Nat) = 14)) hk
                                    have hk := gx_ifn (by decide : ¬ ((23 : Nat) = 15)) hk
                                    have hk := gx_ifn (by decide : ¬ ((23 : Nat) = 16)) hk
                                    have hk := gx_ifn (by decide : ¬ ((23 : Nat) = 17)) hk
                                    have hk := gx_ifn (by decide : ¬ ((23 : Nat) = 18)) hk
                                    have hk := gx_ifn (by decide : ¬ ((23 : Nat) = 19)) hk
                                    have hk := gx_ifn (by decide : ¬ ((23 : Nat) = 20)) hk
                                    have hk := gx_ifn (by decide : ¬ ((23 : Nat) = 21)) hk
                                    have hk := gx_ifn (by decide : ¬ ((23 : Nat) = 22)) hk
                                    refine gx_widen (n' := n + 4) (k' := k + 24) (by omega) (by omega) ?_
                                    have hk := gx_ifp (rfl : (23 : Nat) = 23) hk
                                    refine gx_lv (lv' := []) [] rfl ?_
                                    exact hk
                                · have hf := (if_neg h155).symm.trans hf
                                  by_cases h159 : ((xs (a.1 : Int32).toNatClampNeg) &&& 15) = 13
                                  · have hf := (if_pos h159).symm.trans hf
                                    refine gx_tabIn (tgt := 1004) (off := 945) C d_Law_law_59 (gx_tnl h3) (gx_tng (a := 15) (by decide) h4) (by rw [h159]; rfl) (by decide) ?_
                                    refine gx_aload_n C 1 d_Law_law_1004 rfl rfl ?_
                                    refine gx_aload_n C 0 d_Law_law_1005 rfl rfl ?_
                                    refine gx_iload C 4 d_Law_law_1006 rfl ?_
                                    refine gx_iconst C (v := 1) d_Law_law_1008 (by decide) ?_
                                    refine gx_iadd C d_Law_law_1009 ?_
                                    obtain ⟨hi160, hf⟩ := gx_ck_some hf
                                    refine gx_sld C hX hbl hbA hi160 d_Law_law_1010 ?_
                                    refine gx_aload_n C 0 d_Law_law_1011 rfl rfl ?_
                                    refine gx_iload C 4 d_Law_law_1012 rfl ?_
                                    refine gx_iconst C (v := 2) d_Law_law_1014 (by decide) ?_
                                    refine gx_iadd C d_Law_law_1015 ?_
                                    obtain ⟨hi161, hf⟩ := gx_ck_some hf
                                    refine gx_sld C hX hbl hbA hi161 d_Law_law_1016 ?_
                                    refine gx_aload_n C 3 d_Law_law_1017 rfl rfl ?_
                                    obtain ⟨r162, x162, hc162, hf⟩ := gx_bd_some hf
                                    refine gx_cSWi (n2 := n + 3) (k2 := k + 18) C (As := [.ref (gx_ad E 28), .int (xs (a.1 + 1 : Int32).toNatClampNeg), .int (xs (a.1 + 2 : Int32).toNatClampNeg), .ref (gx_ad E 48)]) (rest := []) 4 (c_CaseLayoutLaw_sight K.l hlt (xs (a.1 + 1 : Int32).toNatClampNeg) (xs (a.1 + 2 : Int32).toNatClampNeg) a.2 _ hc162) (Or.inl rfl) rfl gw_640 gw_641 gw_0 gw_642 (by decide +kernel) (by rw [hR]; decide) rfl rfl (Nat.le_of_ble_eq_true rfl) d_Law_law_1018 (by rw [hR]; exact ⟨(by show n + 0 + 3 ≤ 601024; omega), (by show k + 0 + 18 ≤ 7293000; omega)⟩) (show n + 0 + 3 = n + 3 by omega) (show k + 0 + 18 = k + 18 by omega) ?_
                                    refine gx_istore C (lv' := [(5, .int r162), (0, .ref b), (1, .ref (gx_ad E 28)), (2, .ref (gx_ad E 29)), (3, .ref (gx_ad E 48)), (4, .int a.1)]) d_Law_law_1021 (by decide) rfl ?_
                                    refine gx_aload_n C 3 d_Law_law_1023 rfl rfl ?_
                                    refine gx_aload_n C 1 d_Law_law_1024 rfl rfl ?_
                                    refine gx_iload C 5 d_Law_law_1025 rfl ?_
                                    refine gx_iconst C (v := 1) d_Law_law_1027 (by decide) ?_
                                    refine gx_iadd C d_Law_law_1028 ?_
                                    obtain ⟨hi163, hf⟩ := gx_ck_some hf
                                    refine gx_sld C hX hbl hbA hi163 d_Law_law_1029 ?_
                                    refine gx_aload_n C 1 d_Law_law_1030 rfl rfl ?_
                                    refine gx_iload C 5 d_Law_law_1031 rfl ?_
                                    refine gx_iconst C (v := 2) d_Law_law_1033 (by decide) ?_
                                    refine gx_iadd C d_Law_law_1034 ?_
                                    obtain ⟨hi164, hf⟩ := gx_ck_some hf
                                    refine gx_sld C hX hbl hbA hi164 d_Law_law_1035 ?_
                                    obtain ⟨r165, x165, hc165, hf⟩ := gx_bd_some hf
                                    refine gx_cVi (n2 := n + 3) (k2 := k + 18) C (As := [.int (xs (a.1 + 1 : Int32).toNatClampNeg), .int (xs (a.1 + 2 : Int32).toNatClampNeg)]) (rest := []) 29 2 (c_CaseLayoutModel_sight K.l (xs (a.1 + 1 : Int32).toNatClampNeg) (xs (a.1 + 2 : Int32).toNatClampNeg) x162 _ hc165) (Or.inl rfl) rfl (gx_goodV gw_903 gw_904 gw_905 gw_10 gw_906) (by decide +kernel) (gx_w29 E _) rfl (by rw [hR]; decide) rfl rfl (Nat.le_of_ble_eq_true rfl) d_Law_law_1036 (by rw [hR]; exact ⟨(by show n + 3 + 0 ≤ 601024; omega), (by show k + 18 + 0 ≤ 7293000; omega)⟩) (show n + 3 + 0 = n + 3 by omega) (show k + 18 + 0 = k + 18 by omega) ?_
                                    refine gx_istore C (lv' := [(6, .int r165), (5, .int r162), (0, .ref b), (1, .ref (gx_ad E 28)), (2, .ref (gx_ad E 29)), (3, .ref (gx_ad E 48)), (4, .int a.1)]) d_Law_law_1039 (by decide) rfl ?_
                                    refine gx_aload_n C 4 d_Law_law_1041 rfl rfl ?_
                                    obtain ⟨r166, x166, hc166, hf⟩ := gx_bd_some hf
                                    refine gx_cVi (n2 := n + 3) (k2 := k + 18) C (As := []) (rest := []) 29 0 (c_CaseLayoutModel_thrown K.l  x165 _ hc166) (Or.inl rfl) rfl (gx_goodV gw_759 gw_760 gw_761 gw_10 gw_762) (by decide +kernel) (gx_w29 E _) rfl (by rw [hR]; decide) rfl rfl (Nat.le_of_ble_eq_true rfl) d_Law_law_1042 (by rw [hR]; exact ⟨(by show n + 3 + 0 ≤ 601024; omega), (by show k + 18 + 0 ≤ 7293000; omega)⟩) (show n + 3 + 0 = n + 3 by omega) (show k + 18 + 0 = k + 18 by omega) ?_
                                    refine gx_iload C 1 d_Law_law_1045 rfl ?_
                                    refine gx_icmp_eq (tgt := 1052) C d_Law_law_1047 (by decide) (fun h167 => ?_) (fun h167 => ?_)
                                    · have hf := (if_pos h167).symm.trans hf
                                      refine gx_iload C 1 d_Law_law_1052 rfl ?_
                                      refine gx_if_ne (tgt := 1076) C d_Law_law_1054 (by decide) (fun h168 => ?_) (fun h168 => ?_)
                                      · have hf := (if_neg h168).symm.trans hf
                                        refine gx_goto (tgt := 1203) C d_Law_law_1076 (by decide) ?_
                                        refine gx_iinc C (v := a.1 + 4) (lv' := [(4, .int (a.1 + 4)), (6, .int r165), (5, .int r162), (0, .ref b), (1, .ref (gx_ad E 28)), (2, .ref (gx_ad E 29)), (3, .ref (gx_ad E 48))]) 6 d_Law_law_1203 rfl rfl (by decide) rfl ?_
                                        refine gx_goto (tgt := 43) C d_Law_law_1206 (by decide) ?_
                                        cases hf
                                        refine gx_widen (n' := n + 4) (k' := k + 24) (by omega) (by omega) ?_
                                        refine gx_lv (lv' := [(0, .ref b), (1, .ref (gx_ad E 28)), (2, .ref (gx_ad E 29)), (3, .ref (gx_ad E 48)), (4, .int (a.1 + 4))]) [3, 4, 5, 6, 0] rfl ?_
                                        exact hk
                                      · have hf := (if_pos h168).symm.trans hf
                                        refine gx_aload_n C 5 d_Law_law_1057 rfl rfl ?_
                                        refine gx_iconst C (v := 0) d_Law_law_1058 (by decide) ?_
                                        obtain ⟨hi169, hf⟩ := gx_ck_some hf
                                        refine gx_lald C 48 2 (gx_w48 E _) rfl hi169 d_Law_law_1059 ?_
                                        refine gx_iload C 0 d_Law_law_1060 rfl ?_
                                        refine gx_if_eq (tgt := 1069) C d_Law_law_1062 (by decide) (fun h170 => ?_) (fun h170 => ?_)
                                        · have hf := (if_pos h170).symm.trans hf
                                          refine gx_lconst C (v := 0) d_Law_law_1069 (by decide) ?_
                                          refine gx_lv (lv' := [(0, .ref b), (1, .ref (gx_ad E 28)), (2, .ref (gx_ad E 29)), (3, .ref (gx_ad E 48)), (4, .int a.1)]) [2, 3, 4, 5, 6] rfl ?_
                                          exact jc_law_1070L43 C hR hlt hX hbl hbA hn hk2 a.1 0 (gx_gL x166 (0 : Int32).toNatClampNeg) x166 _ hf hk
                                        · have hf := (if_neg h170).symm.trans hf
                                          refine gx_lconst C (v := 1) d_Law_law_1065 (by decide) ?_
                                          refine gx_goto (tgt := 1070) C d_Law_law_1066 (by decide) ?_
                                          refine gx_lv (lv' := [(0, .ref b), (1, .ref (gx_ad E 28)), (2, .ref (gx_ad E 29)), (3, .ref (gx_ad E 48)), (4, .int a.1)]) [2, 3, 4, 5, 6] rfl ?_
                                          exact jc_law_1070L43 C hR hlt hX hbl hbA hn hk2 a.1 1 (gx_gL x166 (0 : Int32).toNatClampNeg) x166 _ hf hk
                                    · have hf := (if_neg h167).symm.trans hf
                                      cases hf
                                      have hk : pq_law_43 K E b (n + 4) (k + 24)  _ := hk
                                      unfold pq_law_43 at hk
                                      have hk := gx_ifn (by decide : ¬ ((24 : Nat) = 0)) hk
                                      have hk := gx_ifn (by decide : ¬ ((24 : Nat) = 1)) hk
                                      have hk := gx_ifn (by decide : ¬ ((24 : Nat) = 2)) hk
                                      have hk := gx_ifn (by decide : ¬ ((24 : Nat) = 3)) hk
                                      have hk := gx_ifn (by decide : ¬ ((24 : Nat) = 4)) hk
                                      have hk := gx_ifn (by decide : ¬ ((24 : Nat) = 5)) hk
                                      have hk := gx_ifn (by decide : ¬ ((24 : Nat) = 6)) hk
                                      have hk := gx_ifn (by decide : ¬ ((24 : Nat) = 7)) hk
                                      have hk := gx_ifn (by decide : ¬ ((24 : Nat) = 8)) hk
                                      have hk := gx_ifn (by decide : ¬ ((24 : Nat) = 9)) hk
                                      have hk := gx_ifn (by decide : ¬ ((24 : Nat) = 10)) hk
                                      have hk := gx_ifn (by decide : ¬ ((24 : Nat) = 11)) hk
                                      have hk := gx_ifn (by decide : ¬ ((24 : Nat) = 12)) hk
                                      have hk := gx_ifn (by decide : ¬ ((24 : Nat) = 13)) hk
                                      have hk := gx_ifn (by decide : ¬ ((24 : Nat) = 14)) hk
                                      have hk := gx_ifn (by decide : ¬ ((24 : Nat) = 15)) hk
                                      have hk := gx_ifn (by decide : ¬ ((24 : Nat) = 16)) hk
                                      have hk := gx_ifn (by decide : ¬ ((24 : Nat) = 17)) hk
                                      have hk := gx_ifn (by decide : ¬ ((24 : Nat) = 18)) hk
                                      have hk := gx_ifn (by decide : ¬ ((24 : Nat) = 19)) hk
                                      have hk := gx_ifn (by decide : ¬ ((24 : Nat) = 20)) hk
                                      have hk := gx_ifn (by decide : ¬ ((24 : Nat) = 21)) hk
                                      have hk := gx_ifn (by decide : ¬ ((24 : Nat) = 22)) hk
                                      have hk := gx_ifn (by decide : ¬ ((24 : Nat) = 23)) hk
                                      refine gx_widen (n' := n + 4) (k' := k + 24) (by omega) (by omega) ?_
                                      have hk := gx_ifp (rfl : (24 : Nat) = 24) hk
                                      refine gx_lv (lv' := []) [] rfl ?_
                                      exact hk
                                  · have hf := (if_neg h159).symm.trans hf
                                    by_cases h172 : ((xs (a.1 : Int32).toNatClampNeg) &&& 15) = 14
                                    · have hf := (if_pos h172).symm.trans hf
                                      refine gx_tabIn (tgt := 1079) (off := 1020) C d_Law_law_59 (gx_tnl h3) (gx_tng (a := 15) (by decide) h4) (by rw [h172]; rfl) (by decide) ?_
                                      refine gx_aload_n C 1 d_Law_law_1079 rfl rfl ?_
                                      refine gx_aload_n C 0 d_Law_law_1080 rfl rfl ?_
                                      refine gx_iload C 4 d_Law_law_1081 rfl ?_
                                      refine gx_iconst C (v := 1) d_Law_law_1083 (by decide) ?_
                                      refine gx_iadd C d_Law_law_1084 ?_
                                      obtain ⟨hi173, hf⟩ := gx_ck_some hf
                                      refine gx_sld C hX hbl hbA hi173 d_Law_law_1085 ?_
                                      refine gx_aload_n C 0 d_Law_law_1086 rfl rfl ?_
                                      refine gx_iload C 4 d_Law_law_1087 rfl ?_
                                      refine gx_iconst C (v := 2) d_Law_law_1089 (by decide) ?_
                                      refine gx_iadd C d_Law_law_1090 ?_
                                      obtain ⟨hi174, hf⟩ := gx_ck_some hf
                                      refine gx_sld C hX hbl hbA hi174 d_Law_law_1091 ?_
                                      refine gx_aload_n C 3 d_Law_law_1092 rfl rfl ?_
                                      obtain ⟨r175, x175, hc175, hf⟩ := gx_bd_some hf
                                      refine gx_cSWi (n2 := n + 2) (k2 := k + 12) C (As := [.ref (gx_ad E 28), .int (xs (a.1 + 1 : Int32).toNatClampNeg), .int (xs (a.1 + 2 : Int32).toNatClampNeg), .ref (gx_ad E 48)]) (rest := []) 4 (c_CaseLayoutLaw_escape K.l hlt (xs (a.1 + 1 : Int32).toNatClampNeg) (xs (a.1 + 2 : Int32).toNatClampNeg) a.2 _ hc175) (Or.inl rfl) rfl gw_649 gw_650 gw_0 gw_651 (by decide +kernel) (by rw [hR]; decide) rfl rfl (Nat.le_of_ble_eq_true rfl) d_Law_law_1093 (by rw [hR]; exact ⟨(by show n + 0 + 2 ≤ 601024; omega), (by show k + 0 + 12 ≤ 7293000; omega)⟩) (show n + 0 + 2 = n + 2 by omega) (show k + 0 + 12 = k + 12 by omega) ?_
                                      refine gx_istore C (lv' := [(5, .int r175), (0, .ref b), (1, .ref (gx_ad E 28)), (2, .ref (gx_ad E 29)), (3, .ref (gx_ad E 48)), (4, .int a.1)]) d_Law_law_1096 (by decide) rfl ?_
                                      refine gx_aload_n C 3 d_Law_law_1098 rfl rfl ?_
                                      refine gx_aload_n C 1 d_Law_law_1099 rfl rfl ?_
                                      refine gx_iload C 5 d_Law_law_1100 rfl ?_
                                      refine gx_iconst C (v := 1) d_Law_law_1102 (by decide) ?_
                                      refine gx_iadd C d_Law_law_1103 ?_
                                      obtain ⟨hi176, hf⟩ := gx_ck_some hf
                                      refine gx_sld C hX hbl hbA hi176 d_Law_law_1104 ?_
                                      refine gx_aload_n C 1 d_Law_law_1105 rfl rfl ?_
                                      refine gx_iload C 5 d_Law_law_1106 rfl ?_
                                      refine gx_iconst C (v := 2) d_Law_law_1108 (by decide) ?_
                                      refine gx_iadd C d_Law_law_1109 ?_
                                      obtain ⟨hi177, hf⟩ := gx_ck_some hf
                                      refine gx_sld C hX hbl hbA hi177 d_Law_law_1110 ?_
                                      obtain ⟨r178, x178, hc178, hf⟩ := gx_bd_some hf
                                      refine gx_cVi (n2 := n + 2) (k2 := k + 12) C (As := [.int (xs (a.1 + 1 : Int32).toNatClampNeg), .int (xs (a.1 + 2 : Int32).toNatClampNeg)]) (rest := []) 29 2 (c_CaseLayoutModel_escape K.l (xs (a.1 + 1 : Int32).toNatClampNeg) (xs (a.1 + 2 : Int32).toNatClampNeg) x175 _ hc178) (Or.inl rfl) rfl (gx_goodV gw_911 gw_912 gw_913 gw_10 gw_914) (by decide +kernel) (gx_w29 E _) rfl (by rw [hR]; decide) rfl rfl (Nat.le_of_ble_eq_true rfl) d_Law_law_1111 (by rw [hR]; exact ⟨(by show n + 2 + 0 ≤ 601024; omega), (by show k + 12 + 0 ≤ 7293000; omega)⟩) (show n + 2 + 0 = n + 2 by omega) (show k + 12 + 0 = k + 12 by omega) ?_
                                      refine gx_istore C (lv' := [(6, .int r178), (5, .int r175), (0, .ref b), (1, .ref (gx_ad E 28)), (2, .ref (gx_ad E 29)), (3, .ref (gx_ad E 48)), (4, .int a.1)]) d_Law_law_1114 (by decide) rfl ?_
                                      refine gx_aload_n C 4 d_Law_law_1116 rfl rfl ?_
                                      obtain ⟨r179, x179, hc179, hf⟩ := gx_bd_some hf
                                      refine gx_cVi (n2 := n + 2) (k2 := k + 12) C (As := []) (rest := []) 29 0 (c_CaseLayoutModel_thrown K.l  x178 _ hc179) (Or.inl rfl) rfl (gx_goodV gw_759 gw_760 gw_761 gw_10 gw_762) (by decide +kernel) (gx_w29 E _) rfl (by rw [hR]; decide) rfl rfl (Nat.le_of_ble_eq_true rfl) d_Law_law_1117 (by rw [hR]; exact ⟨(by show n + 2 + 0 ≤ 601024; omega), (by show k + 12 + 0 ≤ 7293000; omega)⟩) (show n + 2 + 0 = n + 2 by omega) (show k + 12 + 0 = k + 12 by omega) ?_
                                      refine gx_iload C 1 d_Law_law_1120 rfl ?_
                                      refine gx_icmp_eq (tgt := 1127) C d_Law_law_1122 (by decide) (fun h180 => ?_) (fun h180 => ?_)
                                      · have hf := (if_pos h180).symm.trans hf
                                        refine gx_iload C 1 d_Law_law_1127 rfl ?_
                                        refine gx_if_ne (tgt := 1144) C d_Law_law_1129 (by decide) (fun h181 => ?_) (fun h181 => ?_)
                                        · have hf := (if_neg h181).symm.trans hf
                                          refine gx_goto (tgt := 1203) C d_Law_law_1144 (by decide) ?_
                                          refine gx_iinc C (v := a.1 + 4) (lv' := [(4, .int (a.1 + 4)), (6, .int r178), (5, .int r175), (0, .ref b), (1, .ref (gx_ad E 28)), (2, .ref (gx_ad E 29)), (3, .ref (gx_ad E 48))]) 6 d_Law_law_1203 rfl rfl (by decide) rfl ?_
                                          refine gx_goto (tgt := 43) C d_Law_law_1206 (by decide) ?_
                                          cases hf
                                          refine gx_widen (n' := n + 4) (k' := k + 24) (by omega) (by omega) ?_
                                          refine gx_lv (lv' := [(0, .ref b), (1, .ref (gx_ad E 28)), (2, .ref (gx_ad E 29)), (3, .ref (gx_ad E 48)), (4, .int (a.1 + 4))]) [3, 4, 5, 6, 0] rfl ?_
                                          exact hk
                                        · have hf := (if_pos h181).symm.trans hf
                                          refine gx_aload_n C 5 d_Law_law_1132 rfl rfl ?_
                                          refine gx_iconst C (v := 0) d_Law_law_1133 (by decide) ?_
                                          obtain ⟨hi182, hf⟩ := gx_ck_some hf
                                          refine gx_lald C 48 2 (gx_w48 E _) rfl hi182 d_Law_law_1134 ?_
                                          refine gx_iload C 0 d_Law_law_1135 rfl ?_
                                          refine gx_i2l C d_Law_law_1137 rfl ?_
                                          refine gx_lcmp C d_Law_law_1138 ?_
                                          refine gx_if_eq (tgt := 1144) C d_Law_law_1139 (by decide) (fun h183 => ?_) (fun h183 => ?_)
                                          · have hf := (if_pos h183).symm.trans hf
                                            refine gx_goto (tgt := 1203) C d_Law_law_1144 (by decide) ?_
                                            refine gx_iinc C (v := a.1 + 4) (lv' := [(4, .int (a.1 + 4)), (6, .int r178), (5, .int r175), (0, .ref b), (1, .ref (gx_ad E 28)), (2, .ref (gx_ad E 29)), (3, .ref (gx_ad E 48))]) 6 d_Law_law_1203 rfl rfl (by decide) rfl ?_
                                            refine gx_goto (tgt := 43) C d_Law_law_1206 (by decide) ?_
                                            cases hf
                                            refine gx_widen (n' := n + 4) (k' := k + 24) (by omega) (by omega) ?_
                                            refine gx_lv (lv' := [(0, .ref b), (1, .ref (gx_ad E 28)), (2, .ref (gx_ad E 29)), (3, .ref (gx_ad E 48)), (4, .int (a.1 + 4))]) [3, 4, 5, 6, 0] rfl ?_
                                            exact hk
                                          · have hf := (if_neg h183).symm.trans hf
                                            cases hf
                                            have hk : pq_law_43 K E b (n + 4) (k + 24)  _ := hk
                                            unfold pq_law_43 at hk
                                            have hk := gx_ifn (by decide : ¬ ((27 : Nat) = 0)) hk
                                            have hk := gx_ifn (by decide : ¬ ((27 : Nat) = 1)) hk
                                            have hk := gx_ifn (by decide : ¬ ((27 : Nat) = 2)) hk
                                            have hk := gx_ifn (by decide : ¬ ((27 : Nat) = 3)) hk
                                            have hk := gx_ifn (by decide : ¬ ((27 : Nat) = 4)) hk
                                            have hk := gx_ifn (by decide : ¬ ((27 : Nat) = 5)) hk
                                            have hk := gx_ifn (by decide : ¬ ((27 : Nat) = 6)) hk
                                            have hk := gx_ifn (by decide : ¬ ((27 : Nat) = 7)) hk
                                            have hk := gx_ifn (by decide : ¬ ((27 : Nat) = 8)) hk
                                            have hk := gx_ifn (by decide : ¬ ((27 : Nat) = 9)) hk
                                            have hk := gx_ifn (by decide : ¬ ((27 : Nat) = 10)) hk
                                            have hk := gx_ifn (by decide : ¬ ((27 : Nat) = 11)) hk
                                            have hk := gx_ifn (by decide : ¬ ((27 : Nat) = 12)) hk
                                            have hk := gx_ifn (by decide : ¬ ((27 : Nat) = 13)) hk
                                            have hk := gx_ifn (by decide : ¬ ((27 : Nat) = 14)) hk
                                            have hk := gx_ifn (by decide : ¬ ((27 : Nat) = 15)) hk
                                            have hk := gx_ifn (by decide : ¬ ((27 : Nat) = 16)) hk
                                            have hk := gx_ifn (by decide : ¬ ((27 : Nat) = 17)) hk
                                            have hk := gx_ifn (by decide : ¬ ((27 : Nat) = 18)) hk
                                            have hk := gx_ifn (by decide : ¬ ((27 : Nat) = 19)) hk
                                            have hk := gx_ifn (by decide : ¬ ((27 : Nat) = 20)) hk
                                            have hk := gx_ifn (by decide : ¬ ((27 : Nat) = 21)) hk
                                            have hk := gx_ifn (by decide : ¬ ((27 : Nat) = 22)) hk
                                            have hk := gx_ifn (by decide : ¬ ((27 : Nat) = 23)) hk
                                            have hk := gx_ifn (by decide : ¬ ((27 : Nat) = 24)) hk
                                            have hk := gx_ifn (by decide : ¬ ((27 : Nat) = 25)) hk
                                            have hk := gx_ifn (by decide : ¬ ((27 : Nat) = 26)) hk
                                            refine gx_widen (n' := n + 4) (k' := k + 24) (by omega) (by omega) ?_
                                            have hk := gx_ifp (rfl : (27 : Nat) = 27) hk
                                            refine gx_lv (lv' := []) [] rfl ?_
                                            exact hk
                                      · have hf := (if_neg h180).symm.trans hf
                                        cases hf
                                        have hk : pq_law_43 K E b (n + 4) (k + 24)  _ := hk
                                        unfold pq_law_43 at hk
                                        have hk := gx_ifn (by decide : ¬ ((26 : Nat) = 0)) hk
                                        have hk := gx_ifn (by decide : ¬ ((26 : Nat) = 1)) hk
                                        have hk := gx_ifn (by decide : ¬ ((26 : Nat) = 2)) hk
                                        have hk := gx_ifn (by decide : ¬ ((26 : Nat) = 3)) hk
                                        have hk := gx_ifn (by decide : ¬ ((26 : Nat) = 4)) hk
                                        have hk := gx_ifn (by decide : ¬ ((26 : Nat) = 5)) hk
                                        have hk := gx_ifn (by decide : ¬ ((26 : Nat) = 6)) hk
                                        have hk := gx_ifn (by decide : ¬ ((26 : Nat) = 7)) hk
                                        have hk := gx_ifn (by decide : ¬ ((26 : Nat) = 8)) hk
                                        have hk := gx_ifn (by decide : ¬ ((26 : Nat) = 9)) hk
                                        have hk := gx_ifn (by decide : ¬ ((26 : Nat) = 10)) hk
                                        have hk := gx_ifn (by decide : ¬ ((26 : Nat) = 11)) hk
                                        have hk := gx_ifn (by decide : ¬ ((26 : Nat) = 12)) hk
                                        have hk := gx_ifn (by decide : ¬ ((26 : Nat) = 13)) hk
                                        have hk := gx_ifn (by decide : ¬ ((26 : Nat) = 14)) hk
                                        have hk := gx_ifn (by decide : ¬ ((26 : Nat) = 15)) hk
                                        have hk := gx_ifn (by decide : ¬ ((26 : Nat) = 16)) hk
                                        have hk := gx_ifn (by decide : ¬ ((26 : Nat) = 17)) hk
                                        have hk := gx_ifn (by decide : ¬ ((26 : Nat) = 18)) hk
                                        have hk := gx_ifn (by decide : ¬ ((26 : Nat) = 19)) hk
                                        have hk := gx_ifn (by decide : ¬ ((26 : Nat) = 20)) hk
                                        have hk := gx_ifn (by decide : ¬ ((26 : Nat) = 21)) hk
                                        have hk := gx_ifn (by decide : ¬ ((26 : Nat) = 22)) hk
                                        have hk := gx_ifn (by decide : ¬ ((26 : Nat) = 23)) hk
                                        have hk := gx_ifn (by decide : ¬ ((26 : Nat) = 24)) hk
                                        have hk := gx_ifn (by decide : ¬ ((26 : Nat) = 25)) hk
                                        refine gx_widen (n' := n + 4) (k' := k + 24) (by omega) (by omega) ?_
                                        have hk := gx_ifp (rfl : (26 : Nat) = 26) hk
                                        refine gx_lv (lv' := []) [] rfl ?_
                                        exact hk
                                    · have hf := (if_neg h172).symm.trans hf
                                      have h193 : ((xs (a.1 : Int32).toNatClampNeg) &&& 15) = 15 := gx_tlast15 h3 h4 h5 h22 h36 h50 h64 h78 h90 h107 h119 h129 h139 h143 h155 h159 h172
                                      refine gx_tabIn (tgt := 1147) (off := 1088) C d_Law_law_59 (gx_tnl h3) (gx_tng (a := 15) (by decide) h4) (by rw [h193]; rfl) (by decide) ?_
                                      refine gx_aload_n C 1 d_Law_law_1147 rfl rfl ?_
                                      refine gx_aload_n C 0 d_Law_law_1148 rfl rfl ?_
                                      refine gx_iload C 4 d_Law_law_1149 rfl ?_
                                      refine gx_iconst C (v := 1) d_Law_law_1151 (by decide) ?_
                                      refine gx_iadd C d_Law_law_1152 ?_
                                      obtain ⟨hi184, hf⟩ := gx_ck_some hf
                                      refine gx_sld C hX hbl hbA hi184 d_Law_law_1153 ?_
                                      refine gx_aload_n C 3 d_Law_law_1154 rfl rfl ?_
                                      obtain ⟨r185, x185, hc185, hf⟩ := gx_bd_some hf
                                      refine gx_cSWi (n2 := n + 1) (k2 := k + 6) C (As := [.ref (gx_ad E 28), .int (xs (a.1 + 1 : Int32).toNatClampNeg), .ref (gx_ad E 48)]) (rest := []) 3 (c_CaseLayoutLaw_count K.l hlt (xs (a.1 + 1 : Int32).toNatClampNeg) a.2 _ hc185) (Or.inl rfl) rfl gw_657 gw_658 gw_0 gw_659 (by decide +kernel) (by rw [hR]; decide) rfl rfl (Nat.le_of_ble_eq_true rfl) d_Law_law_1155 (by rw [hR]; exact ⟨(by show n + 0 + 1 ≤ 601024; omega), (by show k + 0 + 6 ≤ 7293000; omega)⟩) (show n + 0 + 1 = n + 1 by omega) (show k + 0 + 6 = k + 6 by omega) ?_
                                      refine gx_istore C (lv' := [(5, .int r185), (0, .ref b), (1, .ref (gx_ad E 28)), (2, .ref (gx_ad E 29)), (3, .ref (gx_ad E 48)), (4, .int a.1)]) d_Law_law_1158 (by decide) rfl ?_
                                      refine gx_aload_n C 3 d_Law_law_1160 rfl rfl ?_
                                      refine gx_aload_n C 1 d_Law_law_1161 rfl rfl ?_
                                      refine gx_iload C 5 d_Law_law_1162 rfl ?_
                                      refine gx_iconst C (v := 1) d_Law_law_1164 (by decide) ?_
                                      refine gx_iadd C d_Law_law_1165 ?_
                                      obtain ⟨hi186, hf⟩ := gx_ck_some hf
                                      refine gx_sld C hX hbl hbA hi186 d_Law_law_1166 ?_
                                      obtain ⟨r187, x187, hc187, hf⟩ := gx_bd_some hf
                                      refine gx_cVi (n2 := n + 1) (k2 := k + 6) C (As := [.int (xs (a.1 + 1 : Int32).toNatClampNeg)]) (rest := []) 29 1 (c_CaseLayoutModel_count K.l (xs (a.1 + 1 : Int32).toNatClampNeg) x185 _ hc187) (Or.inl rfl) rfl (gx_goodV gw_915 gw_916 gw_917 gw_10 gw_918) (by decide +kernel) (gx_w29 E _) rfl (by rw [hR]; decide) rfl rfl (Nat.le_of_ble_eq_true rfl) d_Law_law_1167 (by rw [hR]; exact ⟨(by show n + 1 + 0 ≤ 601024; omega), (by show k + 6 + 0 ≤ 7293000; omega)⟩) (show n + 1 + 0 = n + 1 by omega) (show k + 6 + 0 = k + 6 by omega) ?_
                                      refine gx_istore C (lv' := [(6, .int r187), (5, .int r185), (0, .ref b), (1, .ref (gx_ad E 28)), (2, .ref (gx_ad E 29)), (3, .ref (gx_ad E 48)), (4, .int a.1)]) d_Law_law_1170 (by decide) rfl ?_
                                      refine gx_aload_n C 4 d_Law_law_1172 rfl rfl ?_
                                      obtain ⟨r188, x188, hc188, hf⟩ := gx_bd_some hf
                                      refine gx_cVi (n2 := n + 1) (k2 := k + 6) C (As := []) (rest := []) 29 0 (c_CaseLayoutModel_thrown K.l  x187 _ hc188) (Or.inl rfl) rfl (gx_goodV gw_759 gw_760 gw_761 gw_10 gw_762) (by decide +kernel) (gx_w29 E _) rfl (by rw [hR]; decide) rfl rfl (Nat.le_of_ble_eq_true rfl) d_Law_law_1173 (by rw [hR]; exact ⟨(by show n + 1 + 0 ≤ 601024; omega), (by show k + 6 + 0 ≤ 7293000; omega)⟩) (show n + 1 + 0 = n + 1 by omega) (show k + 6 + 0 = k + 6 by omega) ?_
                                      refine gx_iload C 1 d_Law_law_1176 rfl ?_
                                      refine gx_icmp_eq (tgt := 1183) C d_Law_law_1178 (by decide) (fun h189 => ?_) (fun h189 => ?_)
                                      · have hf := (if_pos h189).symm.trans hf
                                        refine gx_iload C 1 d_Law_law_1183 rfl ?_
                                        refine gx_if_ne (tgt := 1200) C d_Law_law_1185 (by decide) (fun h190 => ?_) (fun h190 => ?_)
                                        · have hf := (if_neg h190).symm.trans hf
                                          refine gx_goto (tgt := 1203) C d_Law_law_1200 (by decide) ?_
                                          refine gx_iinc C (v := a.1 + 4) (lv' := [(4, .int (a.1 + 4)), (6, .int r187), (5, .int r185), (0, .ref b), (1, .ref (gx_ad E 28)), (2, .ref (gx_ad E 29)), (3, .ref (gx_ad E 48))]) 6 d_Law_law_1203 rfl rfl (by decide) rfl ?_
                                          refine gx_goto (tgt := 43) C d_Law_law_1206 (by decide) ?_
                                          cases hf
                                          refine gx_widen (n' := n + 4) (k' := k + 24) (by omega) (by omega) ?_
                                          refine gx_lv (lv' := [(0, .ref b), (1, .ref (gx_ad E 28)), (2, .ref (gx_ad E 29)), (3, .ref (gx_ad E 48)), (4, .int (a.1 + 4))]) [3, 4, 5, 6, 0] rfl ?_
                                          exact hk
                                        · have hf := (if_pos h190).symm.trans hf
                                          refine gx_aload_n C 5 d_Law_law_1188 rfl rfl ?_
                                          refine gx_iconst C (v := 0) d_Law_law_1189 (by decide) ?_
                                          obtain ⟨hi191, hf⟩ := gx_ck_some hf
                                          refine gx_lald C 48 2 (gx_w48 E _) rfl hi191 d_Law_law_1190 ?_
                                          refine gx_iload C 0 d_Law_law_1191 rfl ?_
                                          refine gx_i2l C d_Law_law_1193 rfl ?_
                                          refine gx_lcmp C d_Law_law_1194 ?_
                                          refine gx_if_eq (tgt := 1200) C d_Law_law_1195 (by decide) (fun h192 => ?_) (fun h192 => ?_)
                                          · have hf := (if_pos h192).symm.trans hf
                                            refine gx_goto (tgt := 1203) C d_Law_law_1200 (by decide) ?_
                                            refine gx_iinc C (v := a.1 + 4) (lv' := [(4, .int (a.1 + 4)), (6, .int r187), (5, .int r185), (0, .ref b), (1, .ref (gx_ad E 28)), (2, .ref (gx_ad E 29)), (3, .ref (gx_ad E 48))]) 6 d_Law_law_1203 rfl rfl (by decide) rfl ?_
                                            refine gx_goto (tgt := 43) C d_Law_law_1206 (by decide) ?_
                                            cases hf
                                            refine gx_widen (n' := n + 4) (k' := k + 24) (by omega) (by omega) ?_
                                            refine gx_lv (lv' := [(0, .ref b), (1, .ref (gx_ad E 28)), (2, .ref (gx_ad E 29)), (3, .ref (gx_ad E 48)), (4, .int (a.1 + 4))]) [3, 4, 5, 6, 0] rfl ?_
                                            exact hk
                                          · have hf := (if_neg h192).symm.trans hf
                                            cases hf
                                            have hk : pq_law_43 K E b (n + 4) (k + 24)  _ := hk
                                            unfold pq_law_43 at hk
                                            have hk := gx_ifn (by decide : ¬ ((29 : Nat) = 0)) hk
                                            have hk := gx_ifn (by decide : ¬ ((29 : Nat) = 1)) hk
                                            have hk := gx_ifn (by decide : ¬ ((29 : Nat) = 2)) hk
                                            have hk := gx_ifn (by decide : ¬ ((29 : Nat) = 3)) hk
                                            have hk := gx_ifn (by decide : ¬ ((29 : Nat) = 4)) hk
                                            have hk := gx_ifn (by decide : ¬ ((29 : Nat) = 5)) hk
                                            have hk := gx_ifn (by decide : ¬ ((29 : Nat) = 6)) hk
                                            have hk := gx_ifn (by decide : ¬ ((29 : Nat) = 7)) hk
                                            have hk := gx_ifn (by decide : ¬ ((29 : Nat) = 8)) hk
                                            have hk := gx_ifn (by decide : ¬ ((29 : Nat) = 9)) hk
                                            have hk := gx_ifn (by decide : ¬ ((29 : Nat) = 10)) hk
                                            have hk := gx_ifn (by decide : ¬ ((29 : Nat) = 11)) hk
                                            have hk := gx_ifn (by decide : ¬ ((29 : Nat) = 12)) hk
                                            have hk := gx_ifn (by decide : ¬ ((29 : Nat) = 13)) hk
                                            have hk := gx_ifn (by decide : ¬ ((29 : Nat) = 14)) hk
                                            have hk := gx_ifn (by decide : ¬ ((29 : Nat) = 15)) hk
                                            have hk := gx_ifn (by decide : ¬ ((29 : Nat) = 16)) hk
                                            have hk := gx_ifn (by decide : ¬ ((29 : Nat) = 17)) hk
                                            have hk := gx_ifn (by decide : ¬ ((29 : Nat) = 18)) hk
                                            have hk := gx_ifn (by decide : ¬ ((29 : Nat) = 19)) hk
                                            have hk := gx_ifn (by decide : ¬ ((29 : Nat) = 20)) hk
                                            have hk := gx_ifn (by decide : ¬ ((29 : Nat) = 21)) hk
                                            have hk := gx_ifn (by decide : ¬ ((29 : Nat) = 22)) hk
                                            have hk := gx_ifn (by decide : ¬ ((29 : Nat) = 23)) hk
                                            have hk := gx_ifn (by decide : ¬ ((29 : Nat) = 24)) hk
                                            have hk := gx_ifn (by decide : ¬ ((29 : Nat) = 25)) hk
                                            have hk := gx_ifn (by decide : ¬ ((29 : Nat) = 26)) hk
                                            have hk := gx_ifn (by decide : ¬ ((29 : Nat) = 27)) hk
                                            have hk := gx_ifn (by decide : ¬ ((29 : Nat) = 28)) hk
                                            refine gx_widen (n' := n + 4) (k' := k + 24) (by omega) (by omega) ?_
                                            have hk := gx_ifp (rfl : (29 : Nat) = 29) hk
                                            refine gx_lv (lv' := []) [] rfl ?_
                                            exact hk
                                      · have hf := (if_neg h189).symm.trans hf
                                        cases hf
                                        have hk : pq_law_43 K E b (n + 4) (k + 24)  _ := hk
                                        unfold pq_law_43 at hk
                                        have hk := gx_ifn (by decide : ¬ ((28 : Nat) = 0)) hk
                                        have hk := gx_ifn (by decide : ¬ ((28 : Nat) = 1)) hk
                                        have hk := gx_ifn (by decide : ¬ ((28 : Nat) = 2)) hk
                                        have hk := gx_ifn (by decide : ¬ ((28 : Nat) = 3)) hk
                                        have hk := gx_ifn (by decide : ¬ ((28 : Nat) = 4)) hk
                                        have hk := gx_ifn (by decide : ¬ ((28 : Nat) = 5)) hk
                                        have hk := gx_ifn (by decide : ¬ ((28 : Nat) = 6)) hk
                                        have hk := gx_ifn (by decide : ¬ ((28 : Nat) = 7)) hk
                                        have hk := gx_ifn (by decide : ¬ ((28 : Nat) = 8)) hk
                                        have hk := gx_ifn (by decide : ¬ ((28 : Nat) = 9)) hk
                                        have hk := gx_ifn (by decide : ¬ ((28 : Nat) = 10)) hk
                                        have hk := gx_ifn (by decide : ¬ ((28 : Nat) = 11)) hk
                                        have hk := gx_ifn (by decide : ¬ ((28 : Nat) = 12)) hk
                                        have hk := gx_ifn (by decide : ¬ ((28 : Nat) = 13)) hk
                                        have hk := gx_ifn (by decide : ¬ ((28 : Nat) = 14)) hk
                                        have hk := gx_ifn (by decide : ¬ ((28 : Nat) = 15)) hk
                                        have hk := gx_ifn (by decide : ¬ ((28 : Nat) = 16)) hk
                                        have hk := gx_ifn (by decide : ¬ ((28 : Nat) = 17)) hk
                                        have hk := gx_ifn (by decide : ¬ ((28 : Nat) = 18)) hk
                                        have hk := gx_ifn (by decide : ¬ ((28 : Nat) = 19)) hk
                                        have hk := gx_ifn (by decide : ¬ ((28 : Nat) = 20)) hk
                                        have hk := gx_ifn (by decide : ¬ ((28 : Nat) = 21)) hk
                                        have hk := gx_ifn (by decide : ¬ ((28 : Nat) = 22)) hk
                                        have hk := gx_ifn (by decide : ¬ ((28 : Nat) = 23)) hk
                                        have hk := gx_ifn (by decide : ¬ ((28 : Nat) = 24)) hk
                                        have hk := gx_ifn (by decide : ¬ ((28 : Nat) = 25)) hk
                                        have hk := gx_ifn (by decide : ¬ ((28 : Nat) = 26)) hk
                                        have hk := gx_ifn (by decide : ¬ ((28 : Nat) = 27)) hk
                                        refine gx_widen (n' := n + 4) (k' := k + 24) (by omega) (by omega) ?_
                                        have hk := gx_ifp (rfl : (28 : Nat) = 28) hk
                                        refine gx_lv (lv' := []) [] rfl ?_
                                        exact hk
