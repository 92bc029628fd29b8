/-- THE MODEL's row of places, as it is laid -/
def ly1 (pl : Nat → Int32) (n m : Nat) : Nat → Int32 := fun k => if k < m then nI (mN n k) else if 4 ≤ k ∧ k < 4 + m then 0 else pl k
def ly2 (pl : Nat → Int32) (n i j : Nat) : Nat → Int32 := fun k => if k < 4 then nI (mN n k) else if k < 8 then nI (dN n (k - 4) (if k - 4 < j then i + 1 else i)) else pl k
def ly3 (pl : Nat → Int32) (n m : Nat) : Nat → Int32 := fun k => if k < 8 then nI (b8 n k) else if k < 8 + m then nI (nie n (k - 8)) else pl k
def s_lay (pl : Nat → Int32) (n : Nat) : Nat → Int32 := fun k => if k < 16 then nI (fg n k) else pl k
theorem ly1_0 (pl : Nat → Int32) (n : Nat) : ly1 pl n 0 = pl := by
  funext k
  simp only [ly1]
  repeat' split
  all_goals first | rfl | omega
theorem ly1_s {pl : Nat → Int32} {n m : Nat} (hm : m < 4) : upd (upd (ly1 pl n m) m (nI (mN n m))) (4 + m) 0 = ly1 pl n (m + 1) := by
  funext k
  simp only [upd, ly1]
  repeat' split
  all_goals first | rfl | omega | (next h1 h2 h3 => exact congrArg (fun x => nI (mN n x)) (by omega)) | skip
  all_goals first | rfl | omega | (rename_i h; first | (subst h; rfl))
theorem ly1_4 (pl : Nat → Int32) (n : Nat) : ly1 pl n 4 = ly2 pl n 0 0 := by
  funext k
  simp only [ly1, ly2]
  repeat' split
  all_goals first | rfl | omega
theorem ly2_n (pl : Nat → Int32) (n i : Nat) : ly2 pl n i 4 = ly2 pl n (i + 1) 0 := by
  funext k
  simp only [ly2]
  split
  · rfl
  · split
    · next h1 h2 => rw [if_pos (by omega), if_neg (by omega)]
    · rfl
theorem ly2_s {pl : Nat → Int32} {n i j : Nat} (hi : i < 4) (hj : j < 4) : upd (ly2 pl n i j) (4 + j) (nI (dN n j (i + 1))) = ly2 pl n i (j + 1) := by
  funext k
  by_cases e : k = 4 + j
  · subst e
    rw [pk_us]
    simp only [ly2]
    rw [if_neg (by omega), if_pos (by omega), if_pos (by omega), show 4 + j - 4 = j by omega]
  · rw [pk_un e]
    simp only [ly2]
    split
    · rfl
    · split
      · next h1 h2 =>
        by_cases h3 : k - 4 < j
        · rw [if_pos h3, if_pos (by omega)]
        · rw [if_neg h3, if_neg (by omega)]
      · rfl
theorem ly2_4 (pl : Nat → Int32) (n : Nat) : ly2 pl n 4 0 = ly3 pl n 0 := by
  funext k
  simp only [ly2, ly3, b8]
  repeat' split
  all_goals first | rfl | omega
theorem ly3_s {pl : Nat → Int32} {n m : Nat} (hm : m < 4) : upd (ly3 pl n m) (8 + m) (nI (nie n m)) = ly3 pl n (m + 1) := by
  funext k
  by_cases e : k = 8 + m
  · subst e
    rw [pk_us]
    simp only [ly3]
    rw [if_neg (by omega), if_pos (by omega), show 8 + m - 8 = m by omega]
  · rw [pk_un e]
    simp only [ly3]
    repeat' split
    all_goals first | rfl | omega
theorem ly_end (pl : Nat → Int32) (n : Nat) : upd (upd (upd (upd (ly3 pl n 4) 12 (nI (fg n 12))) 13 (nI (fg n 13))) 14 (nI (fg n 14))) 15 (nI (fg n 15)) = s_lay pl n := by
  funext k
  simp only [upd, s_lay]
  by_cases h15 : k = 15
  · subst h15; rfl
  rw [if_neg h15]
  by_cases h14 : k = 14
  · subst h14; rfl
  rw [if_neg h14]
  by_cases h13 : k = 13
  · subst h13; rfl
  rw [if_neg h13]
  by_cases h12 : k = 12
  · subst h12; rfl
  rw [if_neg h12]
  simp only [ly3]
  by_cases h8 : k < 8
  · rw [if_pos h8, if_pos (by omega), fg, if_pos h8]
  · rw [if_neg h8]
    by_cases h16 : k < 8 + 4
    · rw [if_pos h16, if_pos (by omega), fg, if_neg h8, if_pos (by omega)]
    · rw [if_neg h16, if_neg (by omega)]
theorem s_lay_at {pl : Nat → Int32} {n k : Nat} (h : k < 16) : s_lay pl n k = nI (fg n k) := if_pos h
theorem s_lay_2 (pl : Nat → Int32) (n n' : Nat) : s_lay (s_lay pl n) n' = s_lay pl n' := by
  funext k
  simp only [s_lay]
  split <;> rfl
set_option maxHeartbeats 4000000 in
theorem c_X11_lay (l : Launch) (Γ : Gm) {hm : Nat} {q : Nat → Nat} {I : Nat → Int32} {n : Nat} {pl : Nat → Int32} (hn : n < 65536) : Ct l Γ yX11_lay cX11_lay 4 none 0 [.ref hm, .int (nI n)] ([wMo hm q (I), (q 6, .inl (Γ.2.1, 16, .inl (pl)))]) (none) ([wMo hm q (I), (q 6, .inl (Γ.2.1, 16, .inl (s_lay pl n)))]) := by
  refine Ct.of mi_X11_lay [some (.ref hm), some (.int (nI n)), none, none] 2 rfl (Nat.le_of_ble_eq_true rfl) ?_
  intro p e s m args below meth c C hr
  refine ww_iconst (v := 0) C dX11_lay_0 (by decide) 1 rfl ?_
  refine ww_istore_n (i := 2) C dX11_lay_1 rfl (by decide) rfl 2 rfl ?_
  refine ww_lv (lv' := [some (.ref hm), some (.int (nI n)), some (.int (nI 0)), none]) (lvle_same (lvle_same (lvle_same (lvle_none lvle_nil)))) ?_
  refine ww_eq (ws' := [wMo hm q (I), (q 6, .inl (Γ.2.1, 16, .inl (ly1 pl n 0)))]) (by rw [ly1_0]) rfl rfl ?_
  refine ww_loop (fun m9 : Nat => 4 - m9) (fun m9 => m9 ≤ 4) (fun m9 => [wMo hm q (I), (q 6, .inl (Γ.2.1, 16, .inl (ly1 pl n m9)))]) (fun m9 => [some (.ref hm), some (.int (nI n)), some (.int (nI m9)), none]) (0 : Nat) (by omega) rfl rfl (fun m9 hm9 ih => ?_)
  try dsimp only at hm9 ih ⊢
  refine ww_iload_n (i := 2) C dX11_lay_2 rfl rfl 3 rfl ?_
  refine ww_iconst (v := 4) C dX11_lay_3 (by decide) 4 rfl ?_
  refine ww_icmp_ge C 36 dX11_lay_4 (by decide) 7 rfl (fun h_4 => ?_) (fun h_4 => ?_)
  · skip
    obtain rfl : m9 = 4 := eqN (n := 4) h_4 hm9 (by decide)
    rw [ly1_4]
    refine ww_iconst (v := 0) C dX11_lay_36 (by decide) 37 rfl ?_
    refine ww_istore_n (i := 2) C dX11_lay_37 rfl (by decide) rfl 38 rfl ?_
    refine ww_lv (lv' := [some (.ref hm), some (.int (nI n)), some (.int (nI 0)), none]) (lvle_same (lvle_same (lvle_same (lvle_none lvle_nil)))) ?_
    refine ww_loop (fun i9 : Nat => 4 - i9) (fun i9 => i9 ≤ 4) (fun i9 => [wMo hm q (I), (q 6, .inl (Γ.2.1, 16, .inl (ly2 pl n i9 0)))]) (fun i9 => [some (.ref hm), some (.int (nI n)), some (.int (nI i9)), none]) (0 : Nat) (by omega) rfl rfl (fun i9 hi9 ih => ?_)
    try dsimp only at hi9 ih ⊢
    refine ww_iload_n (i := 2) C dX11_lay_38 rfl rfl 39 rfl ?_
    refine ww_iconst (v := 4) C dX11_lay_39 (by decide) 40 rfl ?_
    refine ww_icmp_ge C 85 dX11_lay_40 (by decide) 43 rfl (fun h_40 => ?_) (fun h_40 => ?_)
    · skip
      obtain rfl : i9 = 4 := eqN (n := 4) h_40 hi9 (by decide)
      rw [ly2_4]
      refine ww_iconst (v := 0) C dX11_lay_85 (by decide) 86 rfl ?_
      refine ww_istore_n (i := 2) C dX11_lay_86 rfl (by decide) rfl 87 rfl ?_
      refine ww_loop (fun m9 : Nat => 4 - m9) (fun m9 => m9 ≤ 4) (fun m9 => [wMo hm q (I), (q 6, .inl (Γ.2.1, 16, .inl (ly3 pl n m9)))]) (fun m9 => [some (.ref hm), some (.int (nI n)), some (.int (nI m9)), none]) (0 : Nat) (by omega) rfl rfl (fun m9 hm9 ih => ?_)
      try dsimp only at hm9 ih ⊢
      refine ww_iload_n (i := 2) C dX11_lay_87 rfl rfl 88 rfl ?_
      refine ww_iconst (v := 4) C dX11_lay_88 (by decide) 89 rfl ?_
      refine ww_icmp_ge C 126 dX11_lay_89 (by decide) 92 rfl (fun h_89 => ?_) (fun h_89 => ?_)
      · skip
        obtain rfl : m9 = 4 := eqN (n := 4) h_89 hm9 (by decide)
        refine ww_aload_n (i := 0) C dX11_lay_126 rfl rfl 127 rfl ?_
        refine ww_get C fe_X11_19 dX11_lay_127 0 rfl rfl 130 rfl ?_
        refine ww_bipush (v := 12) C dX11_lay_130 (by decide) 132 rfl ?_
        refine ww_aload_n (i := 0) C dX11_lay_132 rfl rfl 133 rfl ?_
        refine ww_get C fe_X11_19 dX11_lay_133 0 rfl rfl 136 rfl ?_
        refine ww_bipush (v := 8) C dX11_lay_136 (by decide) 138 rfl ?_
        refine ww_iald C dX11_lay_138 1 rfl (vp_in_nI (n := 8) (by decide) (by decide)) 139 rfl ?_
        refine ww_aload_n (i := 0) C dX11_lay_139 rfl rfl 140 rfl ?_
        refine ww_get C fe_X11_19 dX11_lay_140 0 rfl rfl 143 rfl ?_
        refine ww_bipush (v := 9) C dX11_lay_143 (by decide) 145 rfl ?_
        refine ww_iald C dX11_lay_145 1 rfl (vp_in_nI (n := 9) (by decide) (by decide)) 146 rfl ?_
        refine ww_ixor C dX11_lay_146 147 rfl ?_
        refine ww_iast C dX11_lay_147 1 rfl (vp_in_nI (n := 12) (by decide) (by decide)) 148 rfl ?_
        refine ww_aload_n (i := 0) C dX11_lay_148 rfl rfl 149 rfl ?_
        refine ww_get C fe_X11_19 dX11_lay_149 0 rfl rfl 152 rfl ?_
        refine ww_bipush (v := 13) C dX11_lay_152 (by decide) 154 rfl ?_
        refine ww_aload_n (i := 0) C dX11_lay_154 rfl rfl 155 rfl ?_
        refine ww_get C fe_X11_19 dX11_lay_155 0 rfl rfl 158 rfl ?_
        refine ww_bipush (v := 10) C dX11_lay_158 (by decide) 160 rfl ?_
        refine ww_iald C dX11_lay_160 1 rfl (vp_in_nI (n := 10) (by decide) (by decide)) 161 rfl ?_
        refine ww_aload_n (i := 0) C dX11_lay_161 rfl rfl 162 rfl ?_
        refine ww_get C fe_X11_19 dX11_lay_162 0 rfl rfl 165 rfl ?_
        refine ww_bipush (v := 11) C dX11_lay_165 (by decide) 167 rfl ?_
        refine ww_iald C dX11_lay_167 1 rfl (vp_in_nI (n := 11) (by decide) (by decide)) 168 rfl ?_
        refine ww_ixor C dX11_lay_168 169 rfl ?_
        refine ww_iast C dX11_lay_169 1 rfl (vp_in_nI (n := 13) (by decide) (by decide)) 170 rfl ?_
        refine ww_aload_n (i := 0) C dX11_lay_170 rfl rfl 171 rfl ?_
        refine ww_get C fe_X11_19 dX11_lay_171 0 rfl rfl 174 rfl ?_
        refine ww_bipush (v := 14) C dX11_lay_174 (by decide) 176 rfl ?_
        refine ww_aload_n (i := 0) C dX11_lay_176 rfl rfl 177 rfl ?_
        refine ww_get C fe_X11_19 dX11_lay_177 0 rfl rfl 180 rfl ?_
        refine ww_bipush (v := 12) C dX11_lay_180 (by decide) 182 rfl ?_
        refine ww_iald C dX11_lay_182 1 rfl (vp_in_nI (n := 12) (by decide) (by decide)) 183 rfl ?_
        refine ww_aload_n (i := 0) C dX11_lay_183 rfl rfl 184 rfl ?_
        refine ww_get C fe_X11_19 dX11_lay_184 0 rfl rfl 187 rfl ?_
        refine ww_bipush (v := 13) C dX11_lay_187 (by decide) 189 rfl ?_
        refine ww_iald C dX11_lay_189 1 rfl (vp_in_nI (n := 13) (by decide) (by decide)) 190 rfl ?_
        refine ww_ixor C dX11_lay_190 191 rfl ?_
        refine ww_iast C dX11_lay_191 1 rfl (vp_in_nI (n := 14) (by decide) (by decide)) 192 rfl ?_
        refine ww_aload_n (i := 0) C dX11_lay_192 rfl rfl 193 rfl ?_
        refine ww_get C fe_X11_19 dX11_lay_193 0 rfl rfl 196 rfl ?_
        refine ww_bipush (v := 15) C dX11_lay_196 (by decide) 198 rfl ?_
        refine ww_aload_n (i := 0) C dX11_lay_198 rfl rfl 199 rfl ?_
        refine ww_get C fe_X11_19 dX11_lay_199 0 rfl rfl 202 rfl ?_
        refine ww_bipush (v := 14) C dX11_lay_202 (by decide) 204 rfl ?_
        refine ww_iald C dX11_lay_204 1 rfl (vp_in_nI (n := 14) (by decide) (by decide)) 205 rfl ?_
        refine ww_aload_n (i := 0) C dX11_lay_205 rfl rfl 206 rfl ?_
        refine ww_get C fe_X11_19 dX11_lay_206 0 rfl rfl 209 rfl ?_
        refine ww_iconst (v := 0) C dX11_lay_209 (by decide) 210 rfl ?_
        refine ww_iald C dX11_lay_210 1 rfl (vp_in_nI (n := 0) (by decide) (by decide)) 211 rfl ?_
        refine ww_ixor C dX11_lay_211 212 rfl ?_
        refine ww_iast C dX11_lay_212 1 rfl (vp_in_nI (n := 15) (by decide) (by decide)) 213 rfl ?_
        refine ww_eq (ws' := [wMo hm q (I), (q 6, .inl (Γ.2.1, 16, .inl (s_lay pl n)))]) ?_ rfl rfl ?_
        · rw [← ly_end]
          rw [show nI (fg n 15) = nI (fg n 14) ^^^ nI (fg n 0) by rw [nxorI]; rfl, show nI (fg n 14) = nI (fg n 12) ^^^ nI (fg n 13) by rw [nxorI]; rfl, show nI (fg n 13) = nI (fg n 10) ^^^ nI (fg n 11) by rw [nxorI]; rfl, show nI (fg n 12) = nI (fg n 8) ^^^ nI (fg n 9) by rw [nxorI]; rfl]
          rfl
        exact ww_vret C hr dX11_lay_213 rfl rfl
      · skip
        have hlt : m9 < 4 := ltN (n := 4) h_89 (by decide) (by omega)
        have e8 : (8 : Int32) + nI m9 = nI (8 + m9) := by rw [show (8 : Int32) = nI 8 from rfl, nI_add]
        have e2 : (2 : Int32) * nI m9 = nI (2 * m9) := by rw [show (2 : Int32) = nI 2 from rfl, pk_mul]
        have c1 : ((2 : Int32) * nI m9).toNatClampNeg = 2 * m9 := by rw [e2]; exact nI_clamp (by omega)
        have c2 : ((2 : Int32) * nI m9 + 1).toNatClampNeg = 2 * m9 + 1 := by rw [e2, nI_1]; exact nI_clamp (by omega)
        have c3 : ((8 : Int32) + nI m9).toNatClampNeg = 8 + m9 := by rw [e8]; exact nI_clamp (by omega)
        have v1 : ly3 pl n m9 (2 * m9) = nI (b8 n (2 * m9)) := if_pos (by omega)
        have v2 : ly3 pl n m9 (2 * m9 + 1) = nI (b8 n (2 * m9 + 1)) := if_pos (by omega)
        refine ww_aload_n (i := 0) C dX11_lay_92 rfl rfl 93 rfl ?_
        refine ww_get C fe_X11_19 dX11_lay_93 0 rfl rfl 96 rfl ?_
        refine ww_bipush (v := 8) C dX11_lay_96 (by decide) 98 rfl ?_
        refine ww_iload_n (i := 2) C dX11_lay_98 rfl rfl 99 rfl ?_
        refine ww_iadd C dX11_lay_99 100 rfl ?_
        refine ww_aload_n (i := 0) C dX11_lay_100 rfl rfl 101 rfl ?_
        refine ww_get C fe_X11_19 dX11_lay_101 0 rfl rfl 104 rfl ?_
        refine ww_iconst (v := 2) C dX11_lay_104 (by decide) 105 rfl ?_
        refine ww_iload_n (i := 2) C dX11_lay_105 rfl rfl 106 rfl ?_
        refine ww_imul C dX11_lay_106 107 rfl ?_
        refine ww_iald C dX11_lay_107 1 rfl (by rw [e2]; exact vp_in_nI (by omega) (by decide)) 108 rfl ?_
        rw [c1, v1]
        refine ww_aload_n (i := 0) C dX11_lay_108 rfl rfl 109 rfl ?_
        refine ww_get C fe_X11_19 dX11_lay_109 0 rfl rfl 112 rfl ?_
        refine ww_iconst (v := 2) C dX11_lay_112 (by decide) 113 rfl ?_
        refine ww_iload_n (i := 2) C dX11_lay_113 rfl rfl 114 rfl ?_
        refine ww_imul C dX11_lay_114 115 rfl ?_
        refine ww_iconst (v := 1) C dX11_lay_115 (by decide) 116 rfl ?_
        refine ww_iadd C dX11_lay_116 117 rfl ?_
        refine ww_iald C dX11_lay_117 1 rfl (by rw [e2, nI_1]; exact vp_in_nI (by omega) (by decide)) 118 rfl ?_
        rw [c2, v2]
        refine ww_ixor C dX11_lay_118 119 rfl ?_
        rw [nxorI, show b8 n (2 * m9) ^^^ b8 n (2 * m9 + 1) = nie n m9 from rfl]
        refine ww_iast C dX11_lay_119 1 rfl (by rw [e8]; exact vp_in_nI (by omega) (by decide)) 120 rfl ?_
        rw [c3]
        refine ww_iinc (y := 1) C dX11_lay_120 rfl (by decide) (by decide) rfl 123 rfl ?_
        refine ww_goto C 87 dX11_lay_123 (by decide) ?_
        exact ww_eq (by rw [← ly3_s hlt]; rfl) (by rw [nI_succ m9]; rfl) rfl (ih (m9 + 1) (by omega) (by omega))
    · skip
      have hlt : i9 < 4 := ltN (n := 4) h_40 (by decide) (by omega)
      have em : (nI i9).toNatClampNeg = i9 := nI_clamp (by omega)
      refine ww_iconst (v := 0) C dX11_lay_43 (by decide) 44 rfl ?_
      refine ww_istore_n (i := 3) C dX11_lay_44 rfl (by decide) rfl 45 rfl ?_
      refine ww_loop (fun j9 : Nat => 4 - j9) (fun j9 => j9 ≤ 4) (fun j9 => [wMo hm q (I), (q 6, .inl (Γ.2.1, 16, .inl (ly2 pl n i9 j9)))]) (fun j9 => [some (.ref hm), some (.int (nI n)), some (.int (nI i9)), some (.int (nI j9))]) (0 : Nat) (by omega) rfl rfl (fun j9 hj9 ih2 => ?_)
      try dsimp only at hj9 ih2 ⊢
      refine ww_iload_n (i := 3) C dX11_lay_45 rfl rfl 46 rfl ?_
      refine ww_iconst (v := 4) C dX11_lay_46 (by decide) 47 rfl ?_
      refine ww_icmp_ge C 79 dX11_lay_47 (by decide) 50 rfl (fun h_47 => ?_) (fun h_47 => ?_)
      · skip
        obtain rfl : j9 = 4 := eqN (n := 4) h_47 hj9 (by decide)
        rw [ly2_n]
        refine ww_iinc (y := 1) C dX11_lay_79 rfl (by decide) (by decide) rfl 82 rfl ?_
        refine ww_goto C 38 dX11_lay_82 (by decide) ?_
        refine ww_lv (lv' := [some (.ref hm), some (.int (nI n)), some (.int (nI (i9 + 1))), none]) (by rw [nI_succ i9]; exact (lvle_same (lvle_same (lvle_same (lvle_none lvle_nil))))) (ih (i9 + 1) (by omega) (by omega))
      · skip
        have hlj : j9 < 4 := ltN (n := 4) h_47 (by decide) (by omega)
        have e4 : (4 : Int32) + nI j9 = nI (4 + j9) := by rw [show (4 : Int32) = nI 4 from rfl, nI_add]
        have em4 : (nI (4 + j9)).toNatClampNeg = 4 + j9 := nI_clamp (by omega)
        have v1 : ly2 pl n i9 j9 (4 + j9) = nI (dN n j9 i9) := by
          simp only [ly2]
          rw [if_neg (by omega), if_pos (by omega), if_neg (by omega), show 4 + j9 - 4 = j9 by omega]
        have v2 : ly2 pl n i9 j9 i9 = nI (mN n i9) := if_pos hlt
        have hb2 : n / 2 ^ (4 * i9 + j9) % 2 < 2 := Nat.mod_lt _ (by decide)
        have v3 : nI (dN n j9 i9) ||| (((nI (mN n i9) >>> (nI j9 &&& 31)) &&& 1) <<< (nI i9 &&& 31)) = nI (dN n j9 (i9 + 1)) := by
          rw [shrI (Nat.lt_trans (show mN n i9 < 16 from Nat.mod_lt _ (by decide)) (by decide)) (by omega), and1, bit_m i9 hlj, shlI (by omega) (by
            rcases (show i9 = 0 ∨ i9 = 1 ∨ i9 = 2 ∨ i9 = 3 by omega) with rfl | rfl | rfl | rfl <;> omega), or_sumI _ (dN_lt n j9 i9), dN]
        refine ww_aload_n (i := 0) C dX11_lay_50 rfl rfl 51 rfl ?_
        refine ww_get C fe_X11_19 dX11_lay_51 0 rfl rfl 54 rfl ?_
        refine ww_iconst (v := 4) C dX11_lay_54 (by decide) 55 rfl ?_
        refine ww_iload_n (i := 3) C dX11_lay_55 rfl rfl 56 rfl ?_
        refine ww_iadd C dX11_lay_56 57 rfl ?_
        rw [e4]
        refine ww_dup2 C dX11_lay_57 rfl rfl 58 rfl ?_
        refine ww_iald C dX11_lay_58 1 rfl (vp_in_nI (by omega) (by decide)) 59 rfl ?_
        rw [em4, v1]
        refine ww_aload_n (i := 0) C dX11_lay_59 rfl rfl 60 rfl ?_
        refine ww_get C fe_X11_19 dX11_lay_60 0 rfl rfl 63 rfl ?_
        refine ww_iload_n (i := 2) C dX11_lay_63 rfl rfl 64 rfl ?_
        refine ww_iald C dX11_lay_64 1 rfl (vp_in_nI (by omega) (by decide)) 65 rfl ?_
        rw [em, v2]
        refine ww_iload_n (i := 3) C dX11_lay_65 rfl rfl 66 rfl ?_
        refine ww_ishr C dX11_lay_66 67 rfl ?_
        refine ww_iconst (v := 1) C dX11_lay_67 (by decide) 68 rfl ?_
        refine ww_iand C dX11_lay_68 69 rfl ?_
        refine ww_iload_n (i := 2) C dX11_lay_69 rfl rfl 70 rfl ?_
        refine ww_ishl C dX11_lay_70 71 rfl ?_
        refine ww_ior C dX11_lay_71 72 rfl ?_
        rw [v3]
        refine ww_iast C dX11_lay_72 1 rfl (vp_in_nI (by omega) (by decide)) 73 rfl ?_
        rw [em4]
        refine ww_iinc (y := 1) C dX11_lay_73 rfl (by decide) (by decide) rfl 76 rfl ?_
        refine ww_goto C 45 dX11_lay_76 (by decide) ?_
        exact ww_eq (by rw [← ly2_s hlt hlj]; rfl) (by rw [nI_succ j9]; rfl) rfl (ih2 (j9 + 1) (by omega) (by omega))
  · skip
    have hlt : m9 < 4 := ltN (n := 4) h_4 (by decide) (by omega)
    have e4 : (4 : Int32) + nI m9 = nI (4 + m9) := by rw [show (4 : Int32) = nI 4 from rfl, nI_add]
    have em : (nI m9).toNatClampNeg = m9 := nI_clamp (by omega)
    have em4 : (nI (4 + m9)).toNatClampNeg = 4 + m9 := nI_clamp (by omega)
    refine ww_aload_n (i := 0) C dX11_lay_7 rfl rfl 8 rfl ?_
    refine ww_get C fe_X11_19 dX11_lay_8 0 rfl rfl 11 rfl ?_
    refine ww_iload_n (i := 2) C dX11_lay_11 rfl rfl 12 rfl ?_
    refine ww_iload_n (i := 1) C dX11_lay_12 rfl rfl 13 rfl ?_
    refine ww_iconst (v := 4) C dX11_lay_13 (by decide) 14 rfl ?_
    refine ww_iload_n (i := 2) C dX11_lay_14 rfl rfl 15 rfl ?_
    refine ww_imul C dX11_lay_15 16 rfl ?_
    refine ww_ishr C dX11_lay_16 17 rfl ?_
    refine ww_bipush (v := 15) C dX11_lay_17 (by decide) 19 rfl ?_
    refine ww_iand C dX11_lay_19 20 rfl ?_
    rw [i4, shrI (by omega) (by omega), and15, show n / 2 ^ (4 * m9) % 16 = mN n m9 from rfl]
    refine ww_iast C dX11_lay_20 1 rfl (vp_in_nI (by omega) (by decide)) 21 rfl ?_
    rw [em]
    refine ww_aload_n (i := 0) C dX11_lay_21 rfl rfl 22 rfl ?_
    refine ww_get C fe_X11_19 dX11_lay_22 0 rfl rfl 25 rfl ?_
    refine ww_iconst (v := 4) C dX11_lay_25 (by decide) 26 rfl ?_
    refine ww_iload_n (i := 2) C dX11_lay_26 rfl rfl 27 rfl ?_
    refine ww_iadd C dX11_lay_27 28 rfl ?_
    rw [e4]
    refine ww_iconst (v := 0) C dX11_lay_28 (by decide) 29 rfl ?_
    refine ww_iast C dX11_lay_29 1 rfl (vp_in_nI (by omega) (by decide)) 30 rfl ?_
    rw [em4]
    refine ww_iinc (y := 1) C dX11_lay_30 rfl (by decide) (by decide) rfl 33 rfl ?_
    refine ww_goto C 2 dX11_lay_33 (by decide) ?_
    exact ww_eq (by rw [← ly1_s hlt]; rfl) (by rw [nI_succ m9]; rfl) rfl (ih (m9 + 1) (by omega) (by omega))
