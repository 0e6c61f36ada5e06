/-! the reference: ligatures, several for one -/
def numL (L : List Gl) (i v : Nat) : List Gl := putL L i (sN (gat L i) v)
theorem num_len (L : List Gl) (i v : Nat) : (numL L i v).length = L.length := put_len _ _ _
theorem cl_len (L : List Gl) (i : Nat) : (closeL L i).length = L.length - 1 := mkL_len _ _
theorem op_len (L : List Gl) (i m : Nat) : (openL L i m).length = L.length + m := mkL_len _ _
noncomputable def jnA (L : List Gl) (one its last : Nat) (al : Int32) (lo hi : Nat) : List Gl := closeL (putL (numL (mrgL L lo hi) one its) one (sT (gat (numL (mrgL L lo hi) one its) one) al)) last
noncomputable def jnB (c : Cf) (f : Nat) (L : List Gl) (last : Nat) (al : Int32) : List Gl := prtL c f L (last + 1) (bhm c f L (last + 1)) (al - yT (gat L last)) (yT (gat L last))
noncomputable def jnQ (c : Cf) (f : Nat) (L : List Gl) (one two three : Nat) : List Gl := prtL c f L (two + 1) three (yT (gat L one)) (yT (gat L two))
theorem jnQ_len (c : Cf) (f : Nat) (L : List Gl) (one two three : Nat) : (jnQ c f L one two three).length = L.length := prt_len _ _ _ _ _ _ _
noncomputable def jnP (c : Cf) (f : Nat) (L : List Gl) (one two : Nat) : List Gl := prtL c f L (one + 1) two (nI 0) (yT (gat L one))
def al2 (L : List Gl) (one two : Nat) : Int32 := yT (gat L one) + yT (gat L two) + nI 0
noncomputable def jnC (L : List Gl) (one two its : Nat) (al : Int32) : List Gl := jnA L one its two al (min (yC (gat L one)) (yC (gat L two))) (max (yC (gat L one)) (yC (gat L two)))
noncomputable def jn2 (c : Cf) (f : Nat) (L : List Gl) (one two its : Nat) : List Gl := jnC (jnB c f (jnP c f L one two) two (al2 L one two)) one two its (al2 L one two)
theorem jnB_len (c : Cf) (f : Nat) (L : List Gl) (last : Nat) (al : Int32) : (jnB c f L last al).length = L.length := prt_len _ _ _ _ _ _ _
theorem jnP_len (c : Cf) (f : Nat) (L : List Gl) (one two : Nat) : (jnP c f L one two).length = L.length := prt_len _ _ _ _ _ _ _
set_option maxRecDepth 100000 in
set_option maxHeartbeats 4000000 in
theorem sp_X12_joins_mm {g : gG} {M : gM} {Q : Option Value ⊕ String → gM → Prop} {c : Cf} {f : Nat} {M0 : gM} {L : List Gl} {w : Int32} (h : mX c f M0 L w M) {one two last : Nat} {v3 v4 al : Int32} (h1 : one < L.length) (h2 : two < L.length) (h3 : last < L.length) (K : ∀ lo hi, lo = min (min (yC (gat L one)) (yC (gat L two))) (yC (gat L last)) → hi = max (max (yC (gat L one)) (yC (gat L two))) (yC (gat L last)) → E g 4 0 0 mX12_joins 235 [.ref 129, .int (nI one), .int (nI two), .int v3, .int v4, .int (nI last), .int al, .int (nI lo), .int (nI hi)] [] M Q) : E g 4 0 0 mX12_joins 119 [.ref 129, .int (nI one), .int (nI two), .int v3, .int v4, .int (nI last), .int al, .null, .null] [] M Q := by
  have hL := h.lay
  have hf := h.hf
  have hn := h.len
  have e1 := h.c16 one
  have e2 := h.c16 two
  have e3 := h.c16 last
  refine E_aload_n dX12_joins_119 rfl ?_
  refine E_getRL dX12_joins_120 kF_X12_66 kY_12 (Or.inr ⟨_, rfl⟩) (l_128 hL) (k_128 hL) (r_128_23 hL) ?_
  refine E_iload_n dX12_joins_123 rfl ?_
  refine E_ialdL (v := nI (yC (gat _ _))) dX12_joins_124 (l_146 hL) (k_146 hL) rfl (by first | omega | exact h.n256 _) (by decide) (h.at (by omega)).2.1 ?_
  refine E_aload_n dX12_joins_125 rfl ?_
  refine E_getRL dX12_joins_126 kF_X12_66 kY_12 (Or.inr ⟨_, rfl⟩) (l_128 hL) (k_128 hL) (r_128_23 hL) ?_
  refine E_iload_n dX12_joins_129 rfl ?_
  refine E_ialdL (v := nI (yC (gat _ _))) dX12_joins_130 (l_146 hL) (k_146 hL) rfl (by first | omega | exact h.n256 _) (by decide) (h.at (by omega)).2.1 ?_
  refine E_icmp_ge_n (tgt := 143) dX12_joins_131 (by decide) (by omega) (by omega) (fun c_131 => ?_) (fun c_131 => ?_)
  · refine E_aload_n dX12_joins_143 rfl ?_
    refine E_getRL dX12_joins_144 kF_X12_66 kY_12 (Or.inr ⟨_, rfl⟩) (l_128 hL) (k_128 hL) (r_128_23 hL) ?_
    refine E_iload_n dX12_joins_147 rfl ?_
    refine E_ialdL (v := nI (yC (gat _ _))) dX12_joins_148 (l_146 hL) (k_146 hL) rfl (by first | omega | exact h.n256 _) (by decide) (h.at (by omega)).2.1 ?_
    refine E_istore dX12_joins_149 (Nat.le_of_ble_eq_true rfl) (by decide) rfl ?_
    refine E_aload_n dX12_joins_151 rfl ?_
    refine E_getRL dX12_joins_152 kF_X12_66 kY_12 (Or.inr ⟨_, rfl⟩) (l_128 hL) (k_128 hL) (r_128_23 hL) ?_
    refine E_iload_n dX12_joins_155 rfl ?_
    refine E_ialdL (v := nI (yC (gat _ _))) dX12_joins_156 (l_146 hL) (k_146 hL) rfl (by first | omega | exact h.n256 _) (by decide) (h.at (by omega)).2.1 ?_
    refine E_aload_n dX12_joins_157 rfl ?_
    refine E_getRL dX12_joins_158 kF_X12_66 kY_12 (Or.inr ⟨_, rfl⟩) (l_128 hL) (k_128 hL) (r_128_23 hL) ?_
    refine E_iload_n dX12_joins_161 rfl ?_
    refine E_ialdL (v := nI (yC (gat _ _))) dX12_joins_162 (l_146 hL) (k_146 hL) rfl (by first | omega | exact h.n256 _) (by decide) (h.at (by omega)).2.1 ?_
    refine E_icmp_ge_n (tgt := 175) dX12_joins_163 (by decide) (by omega) (by omega) (fun c_163 => ?_) (fun c_163 => ?_)
    · refine E_aload_n dX12_joins_175 rfl ?_
      refine E_getRL dX12_joins_176 kF_X12_66 kY_12 (Or.inr ⟨_, rfl⟩) (l_128 hL) (k_128 hL) (r_128_23 hL) ?_
      refine E_iload_n dX12_joins_179 rfl ?_
      refine E_ialdL (v := nI (yC (gat _ _))) dX12_joins_180 (l_146 hL) (k_146 hL) rfl (by first | omega | exact h.n256 _) (by decide) (h.at (by omega)).2.1 ?_
      refine E_istore dX12_joins_181 (Nat.le_of_ble_eq_true rfl) (by decide) rfl ?_
      refine E_aload_n dX12_joins_183 rfl ?_
      refine E_getRL dX12_joins_184 kF_X12_66 kY_12 (Or.inr ⟨_, rfl⟩) (l_128 hL) (k_128 hL) (r_128_23 hL) ?_
      refine E_iload dX12_joins_187 rfl ?_
      refine E_ialdL (v := nI (yC (gat _ _))) dX12_joins_189 (l_146 hL) (k_146 hL) rfl (by first | omega | exact h.n256 _) (by decide) (h.at (by omega)).2.1 ?_
      refine E_iload dX12_joins_190 rfl ?_
      refine E_icmp_ge_n (tgt := 205) dX12_joins_192 (by decide) (by omega) (by omega) (fun c_192 => ?_) (fun c_192 => ?_)
      · refine E_iload dX12_joins_205 rfl ?_
        refine E_istore dX12_joins_207 (Nat.le_of_ble_eq_true rfl) (by decide) rfl ?_
        refine E_aload_n dX12_joins_209 rfl ?_
        refine E_getRL dX12_joins_210 kF_X12_66 kY_12 (Or.inr ⟨_, rfl⟩) (l_128 hL) (k_128 hL) (r_128_23 hL) ?_
        refine E_iload dX12_joins_213 rfl ?_
        refine E_ialdL (v := nI (yC (gat _ _))) dX12_joins_215 (l_146 hL) (k_146 hL) rfl (by first | omega | exact h.n256 _) (by decide) (h.at (by omega)).2.1 ?_
        refine E_iload dX12_joins_216 rfl ?_
        refine E_icmp_le_n (tgt := 231) dX12_joins_218 (by decide) (by omega) (by omega) (fun c_218 => ?_) (fun c_218 => ?_)
        · refine E_iload dX12_joins_231 rfl ?_
          refine E_istore dX12_joins_233 (Nat.le_of_ble_eq_true rfl) (by decide) rfl ?_
          exact K _ _ (by omega) (by omega)
        · refine E_aload_n dX12_joins_221 rfl ?_
          refine E_getRL dX12_joins_222 kF_X12_66 kY_12 (Or.inr ⟨_, rfl⟩) (l_128 hL) (k_128 hL) (r_128_23 hL) ?_
          refine E_iload dX12_joins_225 rfl ?_
          refine E_ialdL (v := nI (yC (gat _ _))) dX12_joins_227 (l_146 hL) (k_146 hL) rfl (by first | omega | exact h.n256 _) (by decide) (h.at (by omega)).2.1 ?_
          refine E_goto (tgt := 233) dX12_joins_228 (by decide) ?_
          refine E_istore dX12_joins_233 (Nat.le_of_ble_eq_true rfl) (by decide) rfl ?_
          exact K _ _ (by omega) (by omega)
      · refine E_aload_n dX12_joins_195 rfl ?_
        refine E_getRL dX12_joins_196 kF_X12_66 kY_12 (Or.inr ⟨_, rfl⟩) (l_128 hL) (k_128 hL) (r_128_23 hL) ?_
        refine E_iload dX12_joins_199 rfl ?_
        refine E_ialdL (v := nI (yC (gat _ _))) dX12_joins_201 (l_146 hL) (k_146 hL) rfl (by first | omega | exact h.n256 _) (by decide) (h.at (by omega)).2.1 ?_
        refine E_goto (tgt := 207) dX12_joins_202 (by decide) ?_
        refine E_istore dX12_joins_207 (Nat.le_of_ble_eq_true rfl) (by decide) rfl ?_
        refine E_aload_n dX12_joins_209 rfl ?_
        refine E_getRL dX12_joins_210 kF_X12_66 kY_12 (Or.inr ⟨_, rfl⟩) (l_128 hL) (k_128 hL) (r_128_23 hL) ?_
        refine E_iload dX12_joins_213 rfl ?_
        refine E_ialdL (v := nI (yC (gat _ _))) dX12_joins_215 (l_146 hL) (k_146 hL) rfl (by first | omega | exact h.n256 _) (by decide) (h.at (by omega)).2.1 ?_
        refine E_iload dX12_joins_216 rfl ?_
        refine E_icmp_le_n (tgt := 231) dX12_joins_218 (by decide) (by omega) (by omega) (fun c_218 => ?_) (fun c_218 => ?_)
        · refine E_iload dX12_joins_231 rfl ?_
          refine E_istore dX12_joins_233 (Nat.le_of_ble_eq_true rfl) (by decide) rfl ?_
          exact K _ _ (by omega) (by omega)
        · refine E_aload_n dX12_joins_221 rfl ?_
          refine E_getRL dX12_joins_222 kF_X12_66 kY_12 (Or.inr ⟨_, rfl⟩) (l_128 hL) (k_128 hL) (r_128_23 hL) ?_
          refine E_iload dX12_joins_225 rfl ?_
          refine E_ialdL (v := nI (yC (gat _ _))) dX12_joins_227 (l_146 hL) (k_146 hL) rfl (by first | omega | exact h.n256 _) (by decide) (h.at (by omega)).2.1 ?_
          refine E_goto (tgt := 233) dX12_joins_228 (by decide) ?_
          refine E_istore dX12_joins_233 (Nat.le_of_ble_eq_true rfl) (by decide) rfl ?_
          exact K _ _ (by omega) (by omega)
    · refine E_aload_n dX12_joins_166 rfl ?_
      refine E_getRL dX12_joins_167 kF_X12_66 kY_12 (Or.inr ⟨_, rfl⟩) (l_128 hL) (k_128 hL) (r_128_23 hL) ?_
      refine E_iload_n dX12_joins_170 rfl ?_
      refine E_ialdL (v := nI (yC (gat _ _))) dX12_joins_171 (l_146 hL) (k_146 hL) rfl (by first | omega | exact h.n256 _) (by decide) (h.at (by omega)).2.1 ?_
      refine E_goto (tgt := 181) dX12_joins_172 (by decide) ?_
      refine E_istore dX12_joins_181 (Nat.le_of_ble_eq_true rfl) (by decide) rfl ?_
      refine E_aload_n dX12_joins_183 rfl ?_
      refine E_getRL dX12_joins_184 kF_X12_66 kY_12 (Or.inr ⟨_, rfl⟩) (l_128 hL) (k_128 hL) (r_128_23 hL) ?_
      refine E_iload dX12_joins_187 rfl ?_
      refine E_ialdL (v := nI (yC (gat _ _))) dX12_joins_189 (l_146 hL) (k_146 hL) rfl (by first | omega | exact h.n256 _) (by decide) (h.at (by omega)).2.1 ?_
      refine E_iload dX12_joins_190 rfl ?_
      refine E_icmp_ge_n (tgt := 205) dX12_joins_192 (by decide) (by omega) (by omega) (fun c_192 => ?_) (fun c_192 => ?_)
      · refine E_iload dX12_joins_205 rfl ?_
        refine E_istore dX12_joins_207 (Nat.le_of_ble_eq_true rfl) (by decide) rfl ?_
        refine E_aload_n dX12_joins_209 rfl ?_
        refine E_getRL dX12_joins_210 kF_X12_66 kY_12 (Or.inr ⟨_, rfl⟩) (l_128 hL) (k_128 hL) (r_128_23 hL) ?_
        refine E_iload dX12_joins_213 rfl ?_
        refine E_ialdL (v := nI (yC (gat _ _))) dX12_joins_215 (l_146 hL) (k_146 hL) rfl (by first | omega | exact h.n256 _) (by decide) (h.at (by omega)).2.1 ?_
        refine E_iload dX12_joins_216 rfl ?_
        refine E_icmp_le_n (tgt := 231) dX12_joins_218 (by decide) (by omega) (by omega) (fun c_218 => ?_) (fun c_218 => ?_)
        · refine E_iload dX12_joins_231 rfl ?_
          refine E_istore dX12_joins_233 (Nat.le_of_ble_eq_true rfl) (by decide) rfl ?_
          exact K _ _ (by omega) (by omega)
        · refine E_aload_n dX12_joins_221 rfl ?_
          refine E_getRL dX12_joins_222 kF_X12_66 kY_12 (Or.inr ⟨_, rfl⟩) (l_128 hL) (k_128 hL) (r_128_23 hL) ?_
          refine E_iload dX12_joins_225 rfl ?_
          refine E_ialdL (v := nI (yC (gat _ _))) dX12_joins_227 (l_146 hL) (k_146 hL) rfl (by first | omega | exact h.n256 _) (by decide) (h.at (by omega)).2.1 ?_
          refine E_goto (tgt := 233) dX12_joins_228 (by decide) ?_
          refine E_istore dX12_joins_233 (Nat.le_of_ble_eq_true rfl) (by decide) rfl ?_
          exact K _ _ (by omega) (by omega)
      · refine E_aload_n dX12_joins_195 rfl ?_
        refine E_getRL dX12_joins_196 kF_X12_66 kY_12 (Or.inr ⟨_, rfl⟩) (l_128 hL) (k_128 hL) (r_128_23 hL) ?_
        refine E_iload dX12_joins_199 rfl ?_
        refine E_ialdL (v := nI (yC (gat _ _))) dX12_joins_201 (l_146 hL) (k_146 hL) rfl (by first | omega | exact h.n256 _) (by decide) (h.at (by omega)).2.1 ?_
        refine E_goto (tgt := 207) dX12_joins_202 (by decide) ?_
        refine E_istore dX12_joins_207 (Nat.le_of_ble_eq_true rfl) (by decide) rfl ?_
        refine E_aload_n dX12_joins_209 rfl ?_
        refine E_getRL dX12_joins_210 kF_X12_66 kY_12 (Or.inr ⟨_, rfl⟩) (l_128 hL) (k_128 hL) (r_128_23 hL) ?_
        refine E_iload dX12_joins_213 rfl ?_
        refine E_ialdL (v := nI (yC (gat _ _))) dX12_joins_215 (l_146 hL) (k_146 hL) rfl (by first | omega | exact h.n256 _) (by decide) (h.at (by omega)).2.1 ?_
        refine E_iload dX12_joins_216 rfl ?_
        refine E_icmp_le_n (tgt := 231) dX12_joins_218 (by decide) (by omega) (by omega) (fun c_218 => ?_) (fun c_218 => ?_)
        · refine E_iload dX12_joins_231 rfl ?_
          refine E_istore dX12_joins_233 (Nat.le_of_ble_eq_true rfl) (by decide) rfl ?_
          exact K _ _ (by omega) (by omega)
        · refine E_aload_n dX12_joins_221 rfl ?_
          refine E_getRL dX12_joins_222 kF_X12_66 kY_12 (Or.inr ⟨_, rfl⟩) (l_128 hL) (k_128 hL) (r_128_23 hL) ?_
          refine E_iload dX12_joins_225 rfl ?_
          refine E_ialdL (v := nI (yC (gat _ _))) dX12_joins_227 (l_146 hL) (k_146 hL) rfl (by first | omega | exact h.n256 _) (by decide) (h.at (by omega)).2.1 ?_
          refine E_goto (tgt := 233) dX12_joins_228 (by decide) ?_
          refine E_istore dX12_joins_233 (Nat.le_of_ble_eq_true rfl) (by decide) rfl ?_
          exact K _ _ (by omega) (by omega)
  · refine E_aload_n dX12_joins_134 rfl ?_
    refine E_getRL dX12_joins_135 kF_X12_66 kY_12 (Or.inr ⟨_, rfl⟩) (l_128 hL) (k_128 hL) (r_128_23 hL) ?_
    refine E_iload_n dX12_joins_138 rfl ?_
    refine E_ialdL (v := nI (yC (gat _ _))) dX12_joins_139 (l_146 hL) (k_146 hL) rfl (by first | omega | exact h.n256 _) (by decide) (h.at (by omega)).2.1 ?_
    refine E_goto (tgt := 149) dX12_joins_140 (by decide) ?_
    refine E_istore dX12_joins_149 (Nat.le_of_ble_eq_true rfl) (by decide) rfl ?_
    refine E_aload_n dX12_joins_151 rfl ?_
    refine E_getRL dX12_joins_152 kF_X12_66 kY_12 (Or.inr ⟨_, rfl⟩) (l_128 hL) (k_128 hL) (r_128_23 hL) ?_
    refine E_iload_n dX12_joins_155 rfl ?_
    refine E_ialdL (v := nI (yC (gat _ _))) dX12_joins_156 (l_146 hL) (k_146 hL) rfl (by first | omega | exact h.n256 _) (by decide) (h.at (by omega)).2.1 ?_
    refine E_aload_n dX12_joins_157 rfl ?_
    refine E_getRL dX12_joins_158 kF_X12_66 kY_12 (Or.inr ⟨_, rfl⟩) (l_128 hL) (k_128 hL) (r_128_23 hL) ?_
    refine E_iload_n dX12_joins_161 rfl ?_
    refine E_ialdL (v := nI (yC (gat _ _))) dX12_joins_162 (l_146 hL) (k_146 hL) rfl (by first | omega | exact h.n256 _) (by decide) (h.at (by omega)).2.1 ?_
    refine E_icmp_ge_n (tgt := 175) dX12_joins_163 (by decide) (by omega) (by omega) (fun c_163 => ?_) (fun c_163 => ?_)
    · refine E_aload_n dX12_joins_175 rfl ?_
      refine E_getRL dX12_joins_176 kF_X12_66 kY_12 (Or.inr ⟨_, rfl⟩) (l_128 hL) (k_128 hL) (r_128_23 hL) ?_
      refine E_iload_n dX12_joins_179 rfl ?_
      refine E_ialdL (v := nI (yC (gat _ _))) dX12_joins_180 (l_146 hL) (k_146 hL) rfl (by first | omega | exact h.n256 _) (by decide) (h.at (by omega)).2.1 ?_
      refine E_istore dX12_joins_181 (Nat.le_of_ble_eq_true rfl) (by decide) rfl ?_
      refine E_aload_n dX12_joins_183 rfl ?_
      refine E_getRL dX12_joins_184 kF_X12_66 kY_12 (Or.inr ⟨_, rfl⟩) (l_128 hL) (k_128 hL) (r_128_23 hL) ?_
      refine E_iload dX12_joins_187 rfl ?_
      refine E_ialdL (v := nI (yC (gat _ _))) dX12_joins_189 (l_146 hL) (k_146 hL) rfl (by first | omega | exact h.n256 _) (by decide) (h.at (by omega)).2.1 ?_
      refine E_iload dX12_joins_190 rfl ?_
      refine E_icmp_ge_n (tgt := 205) dX12_joins_192 (by decide) (by omega) (by omega) (fun c_192 => ?_) (fun c_192 => ?_)
      · refine E_iload dX12_joins_205 rfl ?_
        refine E_istore dX12_joins_207 (Nat.le_of_ble_eq_true rfl) (by decide) rfl ?_
        refine E_aload_n dX12_joins_209 rfl ?_
        refine E_getRL dX12_joins_210 kF_X12_66 kY_12 (Or.inr ⟨_, rfl⟩) (l_128 hL) (k_128 hL) (r_128_23 hL) ?_
        refine E_iload dX12_joins_213 rfl ?_
        refine E_ialdL (v := nI (yC (gat _ _))) dX12_joins_215 (l_146 hL) (k_146 hL) rfl (by first | omega | exact h.n256 _) (by decide) (h.at (by omega)).2.1 ?_
        refine E_iload dX12_joins_216 rfl ?_
        refine E_icmp_le_n (tgt := 231) dX12_joins_218 (by decide) (by omega) (by omega) (fun c_218 => ?_) (fun c_218 => ?_)
        · refine E_iload dX12_joins_231 rfl ?_
          refine E_istore dX12_joins_233 (Nat.le_of_ble_eq_true rfl) (by decide) rfl ?_
          exact K _ _ (by omega) (by omega)
        · refine E_aload_n dX12_joins_221 rfl ?_
          refine E_getRL dX12_joins_222 kF_X12_66 kY_12 (Or.inr ⟨_, rfl⟩) (l_128 hL) (k_128 hL) (r_128_23 hL) ?_
          refine E_iload dX12_joins_225 rfl ?_
          refine E_ialdL (v := nI (yC (gat _ _))) dX12_joins_227 (l_146 hL) (k_146 hL) rfl (by first | omega | exact h.n256 _) (by decide) (h.at (by omega)).2.1 ?_
          refine E_goto (tgt := 233) dX12_joins_228 (by decide) ?_
          refine E_istore dX12_joins_233 (Nat.le_of_ble_eq_true rfl) (by decide) rfl ?_
          exact K _ _ (by omega) (by omega)
      · refine E_aload_n dX12_joins_195 rfl ?_
        refine E_getRL dX12_joins_196 kF_X12_66 kY_12 (Or.inr ⟨_, rfl⟩) (l_128 hL) (k_128 hL) (r_128_23 hL) ?_
        refine E_iload dX12_joins_199 rfl ?_
        refine E_ialdL (v := nI (yC (gat _ _))) dX12_joins_201 (l_146 hL) (k_146 hL) rfl (by first | omega | exact h.n256 _) (by decide) (h.at (by omega)).2.1 ?_
        refine E_goto (tgt := 207) dX12_joins_202 (by decide) ?_
        refine E_istore dX12_joins_207 (Nat.le_of_ble_eq_true rfl) (by decide) rfl ?_
        refine E_aload_n dX12_joins_209 rfl ?_
        refine E_getRL dX12_joins_210 kF_X12_66 kY_12 (Or.inr ⟨_, rfl⟩) (l_128 hL) (k_128 hL) (r_128_23 hL) ?_
        refine E_iload dX12_joins_213 rfl ?_
        refine E_ialdL (v := nI (yC (gat _ _))) dX12_joins_215 (l_146 hL) (k_146 hL) rfl (by first | omega | exact h.n256 _) (by decide) (h.at (by omega)).2.1 ?_
        refine E_iload dX12_joins_216 rfl ?_
        refine E_icmp_le_n (tgt := 231) dX12_joins_218 (by decide) (by omega) (by omega) (fun c_218 => ?_) (fun c_218 => ?_)
        · refine E_iload dX12_joins_231 rfl ?_
          refine E_istore dX12_joins_233 (Nat.le_of_ble_eq_true rfl) (by decide) rfl ?_
          exact K _ _ (by omega) (by omega)
        · refine E_aload_n dX12_joins_221 rfl ?_
          refine E_getRL dX12_joins_222 kF_X12_66 kY_12 (Or.inr ⟨_, rfl⟩) (l_128 hL) (k_128 hL) (r_128_23 hL) ?_
          refine E_iload dX12_joins_225 rfl ?_
          refine E_ialdL (v := nI (yC (gat _ _))) dX12_joins_227 (l_146 hL) (k_146 hL) rfl (by first | omega | exact h.n256 _) (by decide) (h.at (by omega)).2.1 ?_
          refine E_goto (tgt := 233) dX12_joins_228 (by decide) ?_
          refine E_istore dX12_joins_233 (Nat.le_of_ble_eq_true rfl) (by decide) rfl ?_
          exact K _ _ (by omega) (by omega)
    · refine E_aload_n dX12_joins_166 rfl ?_
      refine E_getRL dX12_joins_167 kF_X12_66 kY_12 (Or.inr ⟨_, rfl⟩) (l_128 hL) (k_128 hL) (r_128_23 hL) ?_
      refine E_iload_n dX12_joins_170 rfl ?_
      refine E_ialdL (v := nI (yC (gat _ _))) dX12_joins_171 (l_146 hL) (k_146 hL) rfl (by first | omega | exact h.n256 _) (by decide) (h.at (by omega)).2.1 ?_
      refine E_goto (tgt := 181) dX12_joins_172 (by decide) ?_
      refine E_istore dX12_joins_181 (Nat.le_of_ble_eq_true rfl) (by decide) rfl ?_
      refine E_aload_n dX12_joins_183 rfl ?_
      refine E_getRL dX12_joins_184 kF_X12_66 kY_12 (Or.inr ⟨_, rfl⟩) (l_128 hL) (k_128 hL) (r_128_23 hL) ?_
      refine E_iload dX12_joins_187 rfl ?_
      refine E_ialdL (v := nI (yC (gat _ _))) dX12_joins_189 (l_146 hL) (k_146 hL) rfl (by first | omega | exact h.n256 _) (by decide) (h.at (by omega)).2.1 ?_
      refine E_iload dX12_joins_190 rfl ?_
      refine E_icmp_ge_n (tgt := 205) dX12_joins_192 (by decide) (by omega) (by omega) (fun c_192 => ?_) (fun c_192 => ?_)
      · refine E_iload dX12_joins_205 rfl ?_
        refine E_istore dX12_joins_207 (Nat.le_of_ble_eq_true rfl) (by decide) rfl ?_
        refine E_aload_n dX12_joins_209 rfl ?_
        refine E_getRL dX12_joins_210 kF_X12_66 kY_12 (Or.inr ⟨_, rfl⟩) (l_128 hL) (k_128 hL) (r_128_23 hL) ?_
        refine E_iload dX12_joins_213 rfl ?_
        refine E_ialdL (v := nI (yC (gat _ _))) dX12_joins_215 (l_146 hL) (k_146 hL) rfl (by first | omega | exact h.n256 _) (by decide) (h.at (by omega)).2.1 ?_
        refine E_iload dX12_joins_216 rfl ?_
        refine E_icmp_le_n (tgt := 231) dX12_joins_218 (by decide) (by omega) (by omega) (fun c_218 => ?_) (fun c_218 => ?_)
        · refine E_iload dX12_joins_231 rfl ?_
          refine E_istore dX12_joins_233 (Nat.le_of_ble_eq_true rfl) (by decide) rfl ?_
          exact K _ _ (by omega) (by omega)
        · refine E_aload_n dX12_joins_221 rfl ?_
          refine E_getRL dX12_joins_222 kF_X12_66 kY_12 (Or.inr ⟨_, rfl⟩) (l_128 hL) (k_128 hL) (r_128_23 hL) ?_
          refine E_iload dX12_joins_225 rfl ?_
          refine E_ialdL (v := nI (yC (gat _ _))) dX12_joins_227 (l_146 hL) (k_146 hL) rfl (by first | omega | exact h.n256 _) (by decide) (h.at (by omega)).2.1 ?_
          refine E_goto (tgt := 233) dX12_joins_228 (by decide) ?_
          refine E_istore dX12_joins_233 (Nat.le_of_ble_eq_true rfl) (by decide) rfl ?_
          exact K _ _ (by omega) (by omega)
      · refine E_aload_n dX12_joins_195 rfl ?_
        refine E_getRL dX12_joins_196 kF_X12_66 kY_12 (Or.inr ⟨_, rfl⟩) (l_128 hL) (k_128 hL) (r_128_23 hL) ?_
        refine E_iload dX12_joins_199 rfl ?_
        refine E_ialdL (v := nI (yC (gat _ _))) dX12_joins_201 (l_146 hL) (k_146 hL) rfl (by first | omega | exact h.n256 _) (by decide) (h.at (by omega)).2.1 ?_
        refine E_goto (tgt := 207) dX12_joins_202 (by decide) ?_
        refine E_istore dX12_joins_207 (Nat.le_of_ble_eq_true rfl) (by decide) rfl ?_
        refine E_aload_n dX12_joins_209 rfl ?_
        refine E_getRL dX12_joins_210 kF_X12_66 kY_12 (Or.inr ⟨_, rfl⟩) (l_128 hL) (k_128 hL) (r_128_23 hL) ?_
        refine E_iload dX12_joins_213 rfl ?_
        refine E_ialdL (v := nI (yC (gat _ _))) dX12_joins_215 (l_146 hL) (k_146 hL) rfl (by first | omega | exact h.n256 _) (by decide) (h.at (by omega)).2.1 ?_
        refine E_iload dX12_joins_216 rfl ?_
        refine E_icmp_le_n (tgt := 231) dX12_joins_218 (by decide) (by omega) (by omega) (fun c_218 => ?_) (fun c_218 => ?_)
        · refine E_iload dX12_joins_231 rfl ?_
          refine E_istore dX12_joins_233 (Nat.le_of_ble_eq_true rfl) (by decide) rfl ?_
          exact K _ _ (by omega) (by omega)
        · refine E_aload_n dX12_joins_221 rfl ?_
          refine E_getRL dX12_joins_222 kF_X12_66 kY_12 (Or.inr ⟨_, rfl⟩) (l_128 hL) (k_128 hL) (r_128_23 hL) ?_
          refine E_iload dX12_joins_225 rfl ?_
          refine E_ialdL (v := nI (yC (gat _ _))) dX12_joins_227 (l_146 hL) (k_146 hL) rfl (by first | omega | exact h.n256 _) (by decide) (h.at (by omega)).2.1 ?_
          refine E_goto (tgt := 233) dX12_joins_228 (by decide) ?_
          refine E_istore dX12_joins_233 (Nat.le_of_ble_eq_true rfl) (by decide) rfl ?_
          exact K _ _ (by omega) (by omega)
set_option maxRecDepth 100000 in
set_option maxHeartbeats 4000000 in
theorem sp_X12_joins_t2 {g : gG} {M : gM} {Q : Option Value ⊕ String → gM → Prop} {c : Cf} {f : Nat} {M0 : gM} {L : List Gl} {w : Int32} (h : mX c f M0 L w M) {one two lo hi its : Nat} {al : Int32} (h1 : one < L.length) (h2 : two < L.length) (hlo : lo < 16) (hhi : hi < 16) (h3 : its < 256) (K : ∀ M, mX c f M0 (jnA L one its two al lo hi) (wTk w two one) M → Q (.inl none) M) : E g 4 0 0 mX12_joins 235 [.ref 129, .int (nI one), .int (nI two), .int (-100), .int (nI its), .int (nI two), .int al, .int (nI lo), .int (nI hi)] [] M Q := by
  have hL := h.lay
  have hf := h.hf
  have hn := h.len
  refine E_aload_n dX12_joins_235 rfl ?_
  refine E_iload dX12_joins_236 rfl ?_
  refine E_iload dX12_joins_238 rfl ?_
  refine E_callV2 (fr' := 2) (k1 := 0) (n1 := 0) (k2 := 0) (n2 := 0) dX12_joins_240 kO_X12_merges kL_X12_297 (l_128 hL) (k_128 hL) ⟨by decide, rfl⟩ rfl rfl (by decide) (by decide) (by exact Nat.le_of_ble_eq_true rfl) rfl ?_
  refine sp_X12_merges h (by omega) (by omega) (fun M h => ?_)
  have hL := h.lay
  have hn := h.len
  refine gKn ?_
  refine E_aload_n dX12_joins_243 rfl ?_
  refine E_getRL dX12_joins_244 kF_X12_63 kY_12 (Or.inr ⟨_, rfl⟩) (l_128 hL) (k_128 hL) (r_128_22 hL) ?_
  refine E_iload_n dX12_joins_247 rfl ?_
  refine E_iload dX12_joins_248 rfl ?_
  refine E_iast dX12_joins_250 (l_145 hL) (k_145 hL) rfl (by (try simp only [jnP_len, jnB_len, jnQ_len, mrg_len, prt_len, put_len, num_len, cl_len, op_len]); omega) (by decide) ?_
  refine E_aload_n dX12_joins_251 rfl ?_
  refine E_getRL dX12_joins_252 kF_X12_78 kY_12 (Or.inr ⟨_, rfl⟩) (l_128 hL) (k_128 hL) (r_128_27 hL) ?_
  refine E_iload_n dX12_joins_255 rfl ?_
  refine E_iload dX12_joins_256 rfl ?_
  refine E_iast dX12_joins_258 (l_150 hL) (k_150 hL) rfl (by (try simp only [jnP_len, jnB_len, jnQ_len, mrg_len, prt_len, put_len, num_len, cl_len, op_len]); omega) (by decide) ?_
  refine E_aload_n dX12_joins_259 rfl ?_
  refine E_iload dX12_joins_260 rfl ?_
  refine E_iload_n dX12_joins_262 rfl ?_
  refine E_callV2 (fr' := 3) (k1 := 0) (n1 := 0) (k2 := 0) (n2 := 0) dX12_joins_263 kO_X12_takesIn kL_X12_300 (l_128 hL) (k_128 hL) ⟨by decide, rfl⟩ rfl rfl (by decide) (by decide) (by exact Nat.le_of_ble_eq_true rfl) rfl ?_
  have h5 := (h.putN (i := one) (v := its) (by (try simp only [jnP_len, jnB_len, jnQ_len, mrg_len, prt_len, put_len, num_len, cl_len, op_len]); omega) h3).putT (i := one) (v := al) (by (try simp only [jnP_len, jnB_len, jnQ_len, mrg_len, prt_len, put_len, num_len, cl_len, op_len]); omega)
  rw [show putL (mrgL L lo hi) one (sN (gat (mrgL L lo hi) one) its) = numL (mrgL L lo hi) one its from rfl] at h5
  refine sp_X12_takesIn h5 (by (try simp only [jnP_len, jnB_len, jnQ_len, mrg_len, prt_len, put_len, num_len, cl_len, op_len]); omega) (fun M h => ?_)
  refine gKn ?_
  refine E_iload_n dX12_joins_266 rfl ?_
  refine E_bipush (v := -100) dX12_joins_267 (by decide) ?_
  refine E_icmp_eq (tgt := 278) dX12_joins_269 (by decide) (fun _ => ?_) (fun c0 => absurd (by decide) c0)
  refine E_vret dX12_joins_278 rfl ?_
  exact K M h
set_option maxRecDepth 100000 in
set_option maxHeartbeats 4000000 in
theorem sp_X12_joins2 {g : gG} {M : gM} {Q : Option Value ⊕ String → gM → Prop} {c : Cf} {f : Nat} {M0 : gM} {L : List Gl} {w : Int32} (h : mX c f M0 L w M) {one two its : Nat} {it : Int32} (hit : it = nI its) (h1 : one < two) (h2 : two < L.length) (h3 : its < 256) (K : ∀ M, mX c f M0 (jn2 c f L one two its) (wTk w two one) M → Q (.inl none) M) : E g 4 0 0 mX12_joins 0 [.ref 129, .int (nI one), .int (nI two), .int (-100), .int it, .null, .null, .null, .null] [] M Q := by
  subst hit
  have hL := h.lay
  have hf := h.hf
  have hn := h.len
  refine E_iload_n dX12_joins_0 rfl ?_
  refine E_bipush (v := -100) dX12_joins_1 (by decide) ?_
  refine E_icmp_ne_r (tgt := 10) dX12_joins_3 (by decide) (fun c0 => absurd c0 (by decide)) (fun _ => ?_)
  refine E_iload_n dX12_joins_6 rfl ?_
  refine E_goto (tgt := 11) dX12_joins_7 (by decide) ?_
  refine E_istore dX12_joins_11 (Nat.le_of_ble_eq_true rfl) (by decide) rfl ?_
  refine E_aload_n dX12_joins_13 rfl ?_
  refine E_getRL dX12_joins_14 kF_X12_78 kY_12 (Or.inr ⟨_, rfl⟩) (l_128 hL) (k_128 hL) (r_128_27 hL) ?_
  refine E_iload_n dX12_joins_17 rfl ?_
  refine E_ialdL (v := yT (gat _ _)) dX12_joins_18 (l_150 hL) (k_150 hL) rfl (by first | omega | exact h.n256 _) (by decide) (h.at (by (try simp only [jnP_len, jnB_len, jnQ_len, mrg_len, prt_len, put_len, num_len, cl_len, op_len]); omega)).2.2.2.2.2.1 ?_
  refine E_aload_n dX12_joins_19 rfl ?_
  refine E_getRL dX12_joins_20 kF_X12_78 kY_12 (Or.inr ⟨_, rfl⟩) (l_128 hL) (k_128 hL) (r_128_27 hL) ?_
  refine E_iload_n dX12_joins_23 rfl ?_
  refine E_ialdL (v := yT (gat _ _)) dX12_joins_24 (l_150 hL) (k_150 hL) rfl (by first | omega | exact h.n256 _) (by decide) (h.at (by (try simp only [jnP_len, jnB_len, jnQ_len, mrg_len, prt_len, put_len, num_len, cl_len, op_len]); omega)).2.2.2.2.2.1 ?_
  refine E_iadd dX12_joins_25 ?_
  refine E_iload_n dX12_joins_26 rfl ?_
  refine E_bipush (v := -100) dX12_joins_27 (by decide) ?_
  refine E_icmp_ne_r (tgt := 36) dX12_joins_29 (by decide) (fun c0 => absurd c0 (by decide)) (fun _ => ?_)
  refine E_iconst (v := nI 0) dX12_joins_32 (by decide) ?_
  refine E_goto (tgt := 42) dX12_joins_33 (by decide) ?_
  refine E_iadd dX12_joins_42 ?_
  refine E_istore dX12_joins_43 (Nat.le_of_ble_eq_true rfl) (by decide) rfl ?_
  refine E_aload_n dX12_joins_45 rfl ?_
  refine E_iload_n dX12_joins_46 rfl ?_
  refine E_iconst (v := nI 1) dX12_joins_47 (by decide) ?_
  refine E_iadd_n dX12_joins_48 ?_
  refine E_iload_n dX12_joins_49 rfl ?_
  refine E_iconst (v := nI 0) dX12_joins_50 (by decide) ?_
  refine E_aload_n dX12_joins_51 rfl ?_
  refine E_getRL dX12_joins_52 kF_X12_78 kY_12 (Or.inr ⟨_, rfl⟩) (l_128 hL) (k_128 hL) (r_128_27 hL) ?_
  refine E_iload_n dX12_joins_55 rfl ?_
  refine E_ialdL (v := yT (gat _ _)) dX12_joins_56 (l_150 hL) (k_150 hL) rfl (by first | omega | exact h.n256 _) (by decide) (h.at (by (try simp only [jnP_len, jnB_len, jnQ_len, mrg_len, prt_len, put_len, num_len, cl_len, op_len]); omega)).2.2.2.2.2.1 ?_
  refine E_callV4 (fr' := 2) (k1 := 0) (n1 := 0) (k2 := 0) (n2 := 0) dX12_joins_57 kO_X12_partsOf kL_X12_291 (l_128 hL) (k_128 hL) ⟨by decide, rfl⟩ rfl rfl rfl rfl (by decide) (by decide) (by exact Nat.le_of_ble_eq_true rfl) rfl ?_
  refine sp_X12_partsOf h (by omega) (by omega) (fun M h => ?_)
  have h : mX c f M0 (jnP c f L one two) w M := h
  have hL := h.lay
  refine gKn ?_
  refine E_iload_n dX12_joins_60 rfl ?_
  refine E_bipush (v := -100) dX12_joins_61 (by decide) ?_
  refine E_icmp_eq (tgt := 86) dX12_joins_63 (by decide) (fun _ => ?_) (fun c0 => absurd (by decide) c0)
  refine E_aload_n dX12_joins_86 rfl ?_
  refine E_iload dX12_joins_87 rfl ?_
  refine E_iconst (v := nI 1) dX12_joins_89 (by decide) ?_
  refine E_iadd_n dX12_joins_90 ?_
  refine E_aload_n dX12_joins_91 rfl ?_
  refine E_iload dX12_joins_92 rfl ?_
  refine E_iconst (v := nI 1) dX12_joins_94 (by decide) ?_
  refine E_iadd_n dX12_joins_95 ?_
  refine E_callV1 (fr' := 2) (k1 := 0) (n1 := 0) (k2 := 0) (n2 := 0) dX12_joins_96 kO_X12_behindMarks kL_X12_294 (l_128 hL) (k_128 hL) ⟨by decide, rfl⟩ rfl (by decide) (by decide) (by exact Nat.le_of_ble_eq_true rfl) rfl ?_
  refine sp_X12_behindMarks h (by (try simp only [jnP_len, jnB_len, jnQ_len, mrg_len, prt_len, put_len, num_len, cl_len, op_len]); omega) ?_
  refine gKv ?_
  refine E_iload dX12_joins_99 rfl ?_
  refine E_aload_n dX12_joins_101 rfl ?_
  refine E_getRL dX12_joins_102 kF_X12_78 kY_12 (Or.inr ⟨_, rfl⟩) (l_128 hL) (k_128 hL) (r_128_27 hL) ?_
  refine E_iload dX12_joins_105 rfl ?_
  refine E_ialdL (v := yT (gat _ _)) dX12_joins_107 (l_150 hL) (k_150 hL) rfl (by first | omega | exact h.n256 _) (by decide) (h.at (by (try simp only [jnP_len, jnB_len, jnQ_len, mrg_len, prt_len, put_len, num_len, cl_len, op_len]); omega)).2.2.2.2.2.1 ?_
  refine E_isub dX12_joins_108 ?_
  refine E_aload_n dX12_joins_109 rfl ?_
  refine E_getRL dX12_joins_110 kF_X12_78 kY_12 (Or.inr ⟨_, rfl⟩) (l_128 hL) (k_128 hL) (r_128_27 hL) ?_
  refine E_iload dX12_joins_113 rfl ?_
  refine E_ialdL (v := yT (gat _ _)) dX12_joins_115 (l_150 hL) (k_150 hL) rfl (by first | omega | exact h.n256 _) (by decide) (h.at (by (try simp only [jnP_len, jnB_len, jnQ_len, mrg_len, prt_len, put_len, num_len, cl_len, op_len]); omega)).2.2.2.2.2.1 ?_
  refine E_callV4 (fr' := 2) (k1 := 0) (n1 := 0) (k2 := 0) (n2 := 0) dX12_joins_116 kO_X12_partsOf kL_X12_291 (l_128 hL) (k_128 hL) ⟨by decide, rfl⟩ rfl rfl rfl rfl (by decide) (by decide) (by exact Nat.le_of_ble_eq_true rfl) rfl ?_
  refine sp_X12_partsOf h (fnd_spec (by (try simp only [jnP_len, jnB_len, jnQ_len, mrg_len, prt_len, put_len, num_len, cl_len, op_len]); omega)).1 (fnd_spec (by (try simp only [jnP_len, jnB_len, jnQ_len, mrg_len, prt_len, put_len, num_len, cl_len, op_len]); omega)).2.1 (fun M h => ?_)
  have h : mX c f M0 (jnB c f (jnP c f L one two) two (al2 L one two)) w M := h
  have hL := h.lay
  refine gKn ?_
  refine sp_X12_joins_mm h (by (try simp only [jnP_len, jnB_len, jnQ_len, mrg_len, prt_len, put_len, num_len, cl_len, op_len]); omega) (by (try simp only [jnP_len, jnB_len, jnQ_len, mrg_len, prt_len, put_len, num_len, cl_len, op_len]); omega) (by (try simp only [jnP_len, jnB_len, jnQ_len, mrg_len, prt_len, put_len, num_len, cl_len, op_len]); omega) (fun lo hi e1 e2 => ?_)
  have g1 := h.c16 one
  have g2 := h.c16 two
  refine sp_X12_joins_t2 h (by (try simp only [jnP_len, jnB_len, jnQ_len, mrg_len, prt_len, put_len, num_len, cl_len, op_len]); omega) (by (try simp only [jnP_len, jnB_len, jnQ_len, mrg_len, prt_len, put_len, num_len, cl_len, op_len]); omega) (by omega) (by omega) h3 (fun M h => K M ?_)
  rw [e1, e2, Nat.min_assoc, Nat.min_self, Nat.max_assoc, Nat.max_self] at h
  exact h
def al3 (L : List Gl) (one two three : Nat) : Int32 := yT (gat L one) + yT (gat L two) + yT (gat L three)
noncomputable def jnD (L : List Gl) (one two three its : Nat) (al : Int32) : List Gl := closeL (jnA L one its three al (min (min (yC (gat L one)) (yC (gat L two))) (yC (gat L three))) (max (max (yC (gat L one)) (yC (gat L two))) (yC (gat L three)))) two
noncomputable def jn3 (c : Cf) (f : Nat) (L : List Gl) (one two three its : Nat) : List Gl := jnD (jnB c f (jnQ c f (jnP c f L one two) one two three) three (al3 L one two three)) one two three its (al3 L one two three)
theorem jnA_len (L : List Gl) (one its last : Nat) (al : Int32) (lo hi : Nat) : (jnA L one its last al lo hi).length = L.length - 1 := by unfold jnA; rw [cl_len, put_len, num_len, mrg_len]
set_option maxRecDepth 100000 in
set_option maxHeartbeats 4000000 in
theorem sp_X12_joins_t3 {g : gG} {M : gM} {Q : Option Value ⊕ String → gM → Prop} {c : Cf} {f : Nat} {M0 : gM} {L : List Gl} {w : Int32} (h : mX c f M0 L w M) {one two three lo hi its : Nat} {al : Int32} (h1 : one < two) (h2 : two < three) (h4 : three < L.length) (hlo : lo < 16) (hhi : hi < 16) (h3 : its < 256) (K : ∀ M, mX c f M0 (closeL (jnA L one its three al lo hi) two) (wTk (wTk w three one) two one) M → Q (.inl none) M) : E g 4 0 0 mX12_joins 235 [.ref 129, .int (nI one), .int (nI two), .int (nI three), .int (nI its), .int (nI three), .int al, .int (nI lo), .int (nI hi)] [] M Q := by
  have hL := h.lay
  have hf := h.hf
  have hn := h.len
  refine E_aload_n dX12_joins_235 rfl ?_
  refine E_iload dX12_joins_236 rfl ?_
  refine E_iload dX12_joins_238 rfl ?_
  refine E_callV2 (fr' := 2) (k1 := 0) (n1 := 0) (k2 := 0) (n2 := 0) dX12_joins_240 kO_X12_merges kL_X12_297 (l_128 hL) (k_128 hL) ⟨by decide, rfl⟩ rfl rfl (by decide) (by decide) (by exact Nat.le_of_ble_eq_true rfl) rfl ?_
  refine sp_X12_merges h (by omega) (by omega) (fun M h => ?_)
  have hL := h.lay
  have hn := h.len
  refine gKn ?_
  refine E_aload_n dX12_joins_243 rfl ?_
  refine E_getRL dX12_joins_244 kF_X12_63 kY_12 (Or.inr ⟨_, rfl⟩) (l_128 hL) (k_128 hL) (r_128_22 hL) ?_
  refine E_iload_n dX12_joins_247 rfl ?_
  refine E_iload dX12_joins_248 rfl ?_
  refine E_iast dX12_joins_250 (l_145 hL) (k_145 hL) rfl (by (try simp only [jnP_len, jnB_len, jnQ_len, mrg_len, prt_len, put_len, num_len, cl_len, op_len]); omega) (by decide) ?_
  refine E_aload_n dX12_joins_251 rfl ?_
  refine E_getRL dX12_joins_252 kF_X12_78 kY_12 (Or.inr ⟨_, rfl⟩) (l_128 hL) (k_128 hL) (r_128_27 hL) ?_
  refine E_iload_n dX12_joins_255 rfl ?_
  refine E_iload dX12_joins_256 rfl ?_
  refine E_iast dX12_joins_258 (l_150 hL) (k_150 hL) rfl (by (try simp only [jnP_len, jnB_len, jnQ_len, mrg_len, prt_len, put_len, num_len, cl_len, op_len]); omega) (by decide) ?_
  refine E_aload_n dX12_joins_259 rfl ?_
  refine E_iload dX12_joins_260 rfl ?_
  refine E_iload_n dX12_joins_262 rfl ?_
  refine E_callV2 (fr' := 3) (k1 := 0) (n1 := 0) (k2 := 0) (n2 := 0) dX12_joins_263 kO_X12_takesIn kL_X12_300 (l_128 hL) (k_128 hL) ⟨by decide, rfl⟩ rfl rfl (by decide) (by decide) (by exact Nat.le_of_ble_eq_true rfl) rfl ?_
  have h5 := (h.putN (i := one) (v := its) (by (try simp only [jnP_len, jnB_len, jnQ_len, mrg_len, prt_len, put_len, num_len, cl_len, op_len]); omega) h3).putT (i := one) (v := al) (by (try simp only [jnP_len, jnB_len, jnQ_len, mrg_len, prt_len, put_len, num_len, cl_len, op_len]); omega)
  rw [show putL (mrgL L lo hi) one (sN (gat (mrgL L lo hi) one) its) = numL (mrgL L lo hi) one its from rfl] at h5
  refine sp_X12_takesIn h5 (by (try simp only [jnP_len, jnB_len, jnQ_len, mrg_len, prt_len, put_len, num_len, cl_len, op_len]); omega) (fun M h => ?_)
  have hL := h.lay
  refine gKn ?_
  refine E_iload_n dX12_joins_266 rfl ?_
  refine E_bipush (v := -100) dX12_joins_267 (by decide) ?_
  refine E_icmp_eq (tgt := 278) dX12_joins_269 (by decide) (fun c0 => absurd c0 (nI_ne100 (by omega))) (fun _ => ?_)
  refine E_aload_n dX12_joins_272 rfl ?_
  refine E_iload_n dX12_joins_273 rfl ?_
  refine E_iload_n dX12_joins_274 rfl ?_
  refine E_callV2 (fr' := 3) (k1 := 0) (n1 := 0) (k2 := 0) (n2 := 0) dX12_joins_275 kO_X12_takesIn kL_X12_300 (l_128 hL) (k_128 hL) ⟨by decide, rfl⟩ rfl rfl (by decide) (by decide) (by exact Nat.le_of_ble_eq_true rfl) rfl ?_
  refine sp_X12_takesIn h (by (try simp only [jnP_len, jnB_len, jnQ_len, mrg_len, prt_len, put_len, num_len, cl_len, op_len]); omega) (fun M h => ?_)
  refine gKn ?_
  refine E_vret dX12_joins_278 rfl ?_
  exact K M h
set_option maxRecDepth 100000 in
set_option maxHeartbeats 4000000 in
theorem sp_X12_joins3 {g : gG} {M : gM} {Q : Option Value ⊕ String → gM → Prop} {c : Cf} {f : Nat} {M0 : gM} {L : List Gl} {w : Int32} (h : mX c f M0 L w M) {one two three its : Nat} {it : Int32} (hit : it = nI its) (h1 : one < two) (h2 : two < three) (h4 : three < L.length) (h3 : its < 256) (K : ∀ M, mX c f M0 (jn3 c f L one two three its) (wTk (wTk w three one) two one) M → Q (.inl none) M) : E g 4 0 0 mX12_joins 0 [.ref 129, .int (nI one), .int (nI two), .int (nI three), .int it, .null, .null, .null, .null] [] M Q := by
  subst hit
  have hL := h.lay
  have hf := h.hf
  have hn := h.len
  refine E_iload_n dX12_joins_0 rfl ?_
  refine E_bipush (v := -100) dX12_joins_1 (by decide) ?_
  refine E_icmp_ne (tgt := 10) dX12_joins_3 (by decide) (fun _ => ?_) (fun c0 => absurd (nI_ne100 (by omega)) c0)
  refine E_iload_n dX12_joins_10 rfl ?_
  refine E_istore dX12_joins_11 (Nat.le_of_ble_eq_true rfl) (by decide) rfl ?_
  refine E_aload_n dX12_joins_13 rfl ?_
  refine E_getRL dX12_joins_14 kF_X12_78 kY_12 (Or.inr ⟨_, rfl⟩) (l_128 hL) (k_128 hL) (r_128_27 hL) ?_
  refine E_iload_n dX12_joins_17 rfl ?_
  refine E_ialdL (v := yT (gat _ _)) dX12_joins_18 (l_150 hL) (k_150 hL) rfl (by first | omega | exact h.n256 _) (by decide) (h.at (by (try simp only [jnP_len, jnB_len, jnQ_len, mrg_len, prt_len, put_len, num_len, cl_len, op_len]); omega)).2.2.2.2.2.1 ?_
  refine E_aload_n dX12_joins_19 rfl ?_
  refine E_getRL dX12_joins_20 kF_X12_78 kY_12 (Or.inr ⟨_, rfl⟩) (l_128 hL) (k_128 hL) (r_128_27 hL) ?_
  refine E_iload_n dX12_joins_23 rfl ?_
  refine E_ialdL (v := yT (gat _ _)) dX12_joins_24 (l_150 hL) (k_150 hL) rfl (by first | omega | exact h.n256 _) (by decide) (h.at (by (try simp only [jnP_len, jnB_len, jnQ_len, mrg_len, prt_len, put_len, num_len, cl_len, op_len]); omega)).2.2.2.2.2.1 ?_
  refine E_iadd dX12_joins_25 ?_
  refine E_iload_n dX12_joins_26 rfl ?_
  refine E_bipush (v := -100) dX12_joins_27 (by decide) ?_
  refine E_icmp_ne (tgt := 36) dX12_joins_29 (by decide) (fun _ => ?_) (fun c0 => absurd (nI_ne100 (by omega)) c0)
  refine E_aload_n dX12_joins_36 rfl ?_
  refine E_getRL dX12_joins_37 kF_X12_78 kY_12 (Or.inr ⟨_, rfl⟩) (l_128 hL) (k_128 hL) (r_128_27 hL) ?_
  refine E_iload_n dX12_joins_40 rfl ?_
  refine E_ialdL (v := yT (gat _ _)) dX12_joins_41 (l_150 hL) (k_150 hL) rfl (by first | omega | exact h.n256 _) (by decide) (h.at (by (try simp only [jnP_len, jnB_len, jnQ_len, mrg_len, prt_len, put_len, num_len, cl_len, op_len]); omega)).2.2.2.2.2.1 ?_
  refine E_iadd dX12_joins_42 ?_
  refine E_istore dX12_joins_43 (Nat.le_of_ble_eq_true rfl) (by decide) rfl ?_
  refine E_aload_n dX12_joins_45 rfl ?_
  refine E_iload_n dX12_joins_46 rfl ?_
  refine E_iconst (v := nI 1) dX12_joins_47 (by decide) ?_
  refine E_iadd_n dX12_joins_48 ?_
  refine E_iload_n dX12_joins_49 rfl ?_
  refine E_iconst (v := nI 0) dX12_joins_50 (by decide) ?_
  refine E_aload_n dX12_joins_51 rfl ?_
  refine E_getRL dX12_joins_52 kF_X12_78 kY_12 (Or.inr ⟨_, rfl⟩) (l_128 hL) (k_128 hL) (r_128_27 hL) ?_
  refine E_iload_n dX12_joins_55 rfl ?_
  refine E_ialdL (v := yT (gat _ _)) dX12_joins_56 (l_150 hL) (k_150 hL) rfl (by first | omega | exact h.n256 _) (by decide) (h.at (by (try simp only [jnP_len, jnB_len, jnQ_len, mrg_len, prt_len, put_len, num_len, cl_len, op_len]); omega)).2.2.2.2.2.1 ?_
  refine E_callV4 (fr' := 2) (k1 := 0) (n1 := 0) (k2 := 0) (n2 := 0) dX12_joins_57 kO_X12_partsOf kL_X12_291 (l_128 hL) (k_128 hL) ⟨by decide, rfl⟩ rfl rfl rfl rfl (by decide) (by decide) (by exact Nat.le_of_ble_eq_true rfl) rfl ?_
  refine sp_X12_partsOf h (by omega) (by omega) (fun M h => ?_)
  have h : mX c f M0 (jnP c f L one two) w M := h
  have hL := h.lay
  refine gKn ?_
  refine E_iload_n dX12_joins_60 rfl ?_
  refine E_bipush (v := -100) dX12_joins_61 (by decide) ?_
  refine E_icmp_eq (tgt := 86) dX12_joins_63 (by decide) (fun c0 => absurd c0 (nI_ne100 (by omega))) (fun _ => ?_)
  refine E_aload_n dX12_joins_66 rfl ?_
  refine E_iload_n dX12_joins_67 rfl ?_
  refine E_iconst (v := nI 1) dX12_joins_68 (by decide) ?_
  refine E_iadd_n dX12_joins_69 ?_
  refine E_iload_n dX12_joins_70 rfl ?_
  refine E_aload_n dX12_joins_71 rfl ?_
  refine E_getRL dX12_joins_72 kF_X12_78 kY_12 (Or.inr ⟨_, rfl⟩) (l_128 hL) (k_128 hL) (r_128_27 hL) ?_
  refine E_iload_n dX12_joins_75 rfl ?_
  refine E_ialdL (v := yT (gat _ _)) dX12_joins_76 (l_150 hL) (k_150 hL) rfl (by first | omega | exact h.n256 _) (by decide) (h.at (by (try simp only [jnP_len, jnB_len, jnQ_len, mrg_len, prt_len, put_len, num_len, cl_len, op_len]); omega)).2.2.2.2.2.1 ?_
  refine E_aload_n dX12_joins_77 rfl ?_
  refine E_getRL dX12_joins_78 kF_X12_78 kY_12 (Or.inr ⟨_, rfl⟩) (l_128 hL) (k_128 hL) (r_128_27 hL) ?_
  refine E_iload_n dX12_joins_81 rfl ?_
  refine E_ialdL (v := yT (gat _ _)) dX12_joins_82 (l_150 hL) (k_150 hL) rfl (by first | omega | exact h.n256 _) (by decide) (h.at (by (try simp only [jnP_len, jnB_len, jnQ_len, mrg_len, prt_len, put_len, num_len, cl_len, op_len]); omega)).2.2.2.2.2.1 ?_
  refine E_callV4 (fr' := 2) (k1 := 0) (n1 := 0) (k2 := 0) (n2 := 0) dX12_joins_83 kO_X12_partsOf kL_X12_291 (l_128 hL) (k_128 hL) ⟨by decide, rfl⟩ rfl rfl rfl rfl (by decide) (by decide) (by exact Nat.le_of_ble_eq_true rfl) rfl ?_
  refine sp_X12_partsOf h (by omega) (by (try simp only [jnP_len, jnB_len, jnQ_len, mrg_len, prt_len, put_len, num_len, cl_len, op_len]); omega) (fun M h => ?_)
  have h : mX c f M0 (jnQ c f (jnP c f L one two) one two three) w M := h
  have hL := h.lay
  refine gKn ?_
  refine E_aload_n dX12_joins_86 rfl ?_
  refine E_iload dX12_joins_87 rfl ?_
  refine E_iconst (v := nI 1) dX12_joins_89 (by decide) ?_
  refine E_iadd_n dX12_joins_90 ?_
  refine E_aload_n dX12_joins_91 rfl ?_
  refine E_iload dX12_joins_92 rfl ?_
  refine E_iconst (v := nI 1) dX12_joins_94 (by decide) ?_
  refine E_iadd_n dX12_joins_95 ?_
  refine E_callV1 (fr' := 2) (k1 := 0) (n1 := 0) (k2 := 0) (n2 := 0) dX12_joins_96 kO_X12_behindMarks kL_X12_294 (l_128 hL) (k_128 hL) ⟨by decide, rfl⟩ rfl (by decide) (by decide) (by exact Nat.le_of_ble_eq_true rfl) rfl ?_
  refine sp_X12_behindMarks h (by (try simp only [jnP_len, jnB_len, jnQ_len, mrg_len, prt_len, put_len, num_len, cl_len, op_len]); omega) ?_
  refine gKv ?_
  refine E_iload dX12_joins_99 rfl ?_
  refine E_aload_n dX12_joins_101 rfl ?_
  refine E_getRL dX12_joins_102 kF_X12_78 kY_12 (Or.inr ⟨_, rfl⟩) (l_128 hL) (k_128 hL) (r_128_27 hL) ?_
  refine E_iload dX12_joins_105 rfl ?_
  refine E_ialdL (v := yT (gat _ _)) dX12_joins_107 (l_150 hL) (k_150 hL) rfl (by first | omega | exact h.n256 _) (by decide) (h.at (by (try simp only [jnP_len, jnB_len, jnQ_len, mrg_len, prt_len, put_len, num_len, cl_len, op_len]); omega)).2.2.2.2.2.1 ?_
  refine E_isub dX12_joins_108 ?_
  refine E_aload_n dX12_joins_109 rfl ?_
  refine E_getRL dX12_joins_110 kF_X12_78 kY_12 (Or.inr ⟨_, rfl⟩) (l_128 hL) (k_128 hL) (r_128_27 hL) ?_
  refine E_iload dX12_joins_113 rfl ?_
  refine E_ialdL (v := yT (gat _ _)) dX12_joins_115 (l_150 hL) (k_150 hL) rfl (by first | omega | exact h.n256 _) (by decide) (h.at (by (try simp only [jnP_len, jnB_len, jnQ_len, mrg_len, prt_len, put_len, num_len, cl_len, op_len]); omega)).2.2.2.2.2.1 ?_
  refine E_callV4 (fr' := 2) (k1 := 0) (n1 := 0) (k2 := 0) (n2 := 0) dX12_joins_116 kO_X12_partsOf kL_X12_291 (l_128 hL) (k_128 hL) ⟨by decide, rfl⟩ rfl rfl rfl rfl (by decide) (by decide) (by exact Nat.le_of_ble_eq_true rfl) rfl ?_
  refine sp_X12_partsOf h (fnd_spec (by (try simp only [jnP_len, jnB_len, jnQ_len, mrg_len, prt_len, put_len, num_len, cl_len, op_len]); omega)).1 (fnd_spec (by (try simp only [jnP_len, jnB_len, jnQ_len, mrg_len, prt_len, put_len, num_len, cl_len, op_len]); omega)).2.1 (fun M h => ?_)
  have h : mX c f M0 (jnB c f (jnQ c f (jnP c f L one two) one two three) three (al3 L one two three)) w M := h
  have hL := h.lay
  refine gKn ?_
  refine sp_X12_joins_mm h (by (try simp only [jnP_len, jnB_len, jnQ_len, mrg_len, prt_len, put_len, num_len, cl_len, op_len]); omega) (by (try simp only [jnP_len, jnB_len, jnQ_len, mrg_len, prt_len, put_len, num_len, cl_len, op_len]); omega) (by (try simp only [jnP_len, jnB_len, jnQ_len, mrg_len, prt_len, put_len, num_len, cl_len, op_len]); omega) (fun lo hi e1 e2 => ?_)
  have g1 := h.c16 one
  have g2 := h.c16 two
  have g3 := h.c16 three
  refine sp_X12_joins_t3 h (by omega) (by omega) (by (try simp only [jnP_len, jnB_len, jnQ_len, mrg_len, prt_len, put_len, num_len, cl_len, op_len]); omega) (by omega) (by omega) h3 (fun M h => K M ?_)
  rw [e1, e2] at h
  exact h
noncomputable def wPu (w : Int32) (i m : Nat) : Int32 := w + cI (w < nI i) (nI 0) (nI m)
noncomputable def putsL (L : List Gl) (i m b cc e : Nat) : List Gl := numL (numL (numL (openL L i m) i b) (i + 1) cc) (i + m) e
theorem puts_len (L : List Gl) (i m b cc e : Nat) : (putsL L i m b cc e).length = L.length + m := by unfold putsL; rw [num_len, num_len, num_len, op_len]
set_option maxRecDepth 100000 in
set_option maxHeartbeats 4000000 in
theorem sp_X12_puts1 {g : gG} {M : gM} {Q : Option Value ⊕ String → gM → Prop} {c : Cf} {f : Nat} {M0 : gM} {L : List Gl} {w : Int32} (h : mX c f M0 L w M) {i b cc : Nat} (hi : i < L.length) (hb : b < 256) (hc : cc < 256) (K0 : ¬ L.length + 1 ≤ 64 → Q (.inl (some (.int (-100)))) M) (K : L.length + 1 ≤ 64 → ∀ M, mX c f M0 (putsL L i 1 b cc cc) (wPu w i 1) M → Q (.inl (some (.int (nI (i + 1 + 1))))) M) : E g 3 0 0 mX12_puts 0 [.ref 129, .int (nI i), .int (nI b), .int (nI cc), .int (-100), .null] [] M Q := by
  have hL := h.lay
  have hf := h.hf
  have hn := h.len
  refine E_iload dX12_puts_0 rfl ?_
  refine E_bipush (v := -100) dX12_puts_2 (by decide) ?_
  refine E_icmp_ne_r (tgt := 11) dX12_puts_4 (by decide) (fun c0 => absurd c0 (by decide)) (fun _ => ?_)
  refine E_iconst (v := nI 1) dX12_puts_7 (by decide) ?_
  refine E_goto (tgt := 12) dX12_puts_8 (by decide) ?_
  refine E_istore dX12_puts_12 (Nat.le_of_ble_eq_true rfl) (by decide) rfl ?_
  refine E_aload_n dX12_puts_14 rfl ?_
  refine E_getIL (v := nI _) dX12_puts_15 kF_X12_235 kY_12 (Or.inl rfl) (l_128 hL) (k_128 hL) h.gn ?_
  refine E_iload dX12_puts_18 rfl ?_
  refine E_iadd_n dX12_puts_20 ?_
  refine E_bipush (v := nI 64) dX12_puts_21 (by decide) ?_
  refine E_icmp_le_n (tgt := 29) dX12_puts_23 (by decide) (by omega) (by omega) (fun c_23 => ?_) (fun c_23 => ?_)
  · refine E_aload_n dX12_puts_29 rfl ?_
    refine E_iload_n dX12_puts_30 rfl ?_
    refine E_iload dX12_puts_31 rfl ?_
    refine E_callV2 (fr' := 2) (k1 := 0) (n1 := 0) (k2 := 0) (n2 := 0) dX12_puts_33 kO_X12_opens kL_X12_317 (l_128 hL) (k_128 hL) ⟨by decide, rfl⟩ rfl rfl (by decide) (by decide) (by exact Nat.le_of_ble_eq_true rfl) rfl ?_
    refine sp_X12_opens h (by omega) (by omega) (by omega) (fun M h => ?_)
    have hL := h.lay
    have hn := h.len
    refine gKn ?_
    refine E_aload_n dX12_puts_36 rfl ?_
    refine E_getRL dX12_puts_37 kF_X12_63 kY_12 (Or.inr ⟨_, rfl⟩) (l_128 hL) (k_128 hL) (r_128_22 hL) ?_
    refine E_iload_n dX12_puts_40 rfl ?_
    refine E_iload_n dX12_puts_41 rfl ?_
    refine E_iast dX12_puts_42 (l_145 hL) (k_145 hL) rfl (by (try simp only [jnP_len, jnB_len, jnQ_len, mrg_len, prt_len, put_len, num_len, cl_len, op_len]); omega) (by decide) ?_
    refine E_aload_n dX12_puts_43 rfl ?_
    refine E_getRL dX12_puts_44 kF_X12_63 kY_12 (Or.inr ⟨_, rfl⟩) (l_128 hL) (k_128 hL) (r_128_22 hL) ?_
    refine E_iload_n dX12_puts_47 rfl ?_
    refine E_iconst (v := nI 1) dX12_puts_48 (by decide) ?_
    refine E_iadd_n dX12_puts_49 ?_
    refine E_iload_n dX12_puts_50 rfl ?_
    refine E_iast dX12_puts_51 (l_145 hL) (k_145 hL) rfl (by (try simp only [jnP_len, jnB_len, jnQ_len, mrg_len, prt_len, put_len, num_len, cl_len, op_len]); omega) (by decide) ?_
    refine E_aload_n dX12_puts_52 rfl ?_
    refine E_getRL dX12_puts_53 kF_X12_63 kY_12 (Or.inr ⟨_, rfl⟩) (l_128 hL) (k_128 hL) (r_128_22 hL) ?_
    refine E_iload_n dX12_puts_56 rfl ?_
    refine E_iload dX12_puts_57 rfl ?_
    refine E_iadd_n dX12_puts_59 ?_
    refine E_iload dX12_puts_60 rfl ?_
    refine E_bipush (v := -100) dX12_puts_62 (by decide) ?_
    refine E_icmp_ne_r (tgt := 71) dX12_puts_64 (by decide) (fun c0 => absurd c0 (by decide)) (fun _ => ?_)
    refine E_iload_n dX12_puts_67 rfl ?_
    refine E_goto (tgt := 73) dX12_puts_68 (by decide) ?_
    refine E_iast dX12_puts_73 (l_145 hL) (k_145 hL) rfl (by (try simp only [jnP_len, jnB_len, jnQ_len, mrg_len, prt_len, put_len, num_len, cl_len, op_len]); omega) (by decide) ?_
    refine E_aload_n dX12_puts_74 rfl ?_
    refine E_dup dX12_puts_75 rfl ?_
    refine E_getIL (v := w) dX12_puts_76 kF_X12_303 kY_12 (Or.inl rfl) (l_128 hL) (k_128 hL) h.gw ?_
    refine E_aload_n dX12_puts_79 rfl ?_
    refine E_getIL (v := w) dX12_puts_80 kF_X12_303 kY_12 (Or.inl rfl) (l_128 hL) (k_128 hL) h.gw ?_
    refine E_iload_n dX12_puts_83 rfl ?_
    refine E_icmp_lt (tgt := 92) dX12_puts_84 (by decide) (fun c_84 => ?_) (fun c_84 => ?_)
    · refine E_iconst (v := nI 0) dX12_puts_92 (by decide) ?_
      refine E_iadd dX12_puts_93 ?_
      refine E_putI dX12_puts_94 kF_X12_303 kY_12 (Or.inl rfl) (l_128 hL) (k_128 hL) (Or.inl rfl) ?_
      refine E_iload_n dX12_puts_97 rfl ?_
      refine E_iload dX12_puts_98 rfl ?_
      refine E_iadd_n dX12_puts_100 ?_
      refine E_iconst (v := nI 1) dX12_puts_101 (by decide) ?_
      refine E_iadd_n dX12_puts_102 ?_
      refine E_iret dX12_puts_103 (Or.inl rfl) ?_
      have h5 := ((((h.putN (i := i) (v := b) (by (try simp only [jnP_len, jnB_len, jnQ_len, mrg_len, prt_len, put_len, num_len, cl_len, op_len]); omega) hb).putN (i := i + 1) (v := cc) (by (try simp only [jnP_len, jnB_len, jnQ_len, mrg_len, prt_len, put_len, num_len, cl_len, op_len]); omega) hc).putN (i := i + 1) (v := cc) (by (try simp only [jnP_len, jnB_len, jnQ_len, mrg_len, prt_len, put_len, num_len, cl_len, op_len]); omega) hc).setW (wPu w i 1))
      refine K (by omega) _ (show mX c f M0 (putsL L i 1 b cc cc) _ _ from ?_)
      unfold wPu at h5 ⊢
      first
        | (rw [cI_t (by assumption)] at h5 ⊢; exact h5)
        | (rw [cI_f (by assumption)] at h5 ⊢; exact h5)
    · refine E_iload dX12_puts_87 rfl ?_
      refine E_goto (tgt := 93) dX12_puts_89 (by decide) ?_
      refine E_iadd dX12_puts_93 ?_
      refine E_putI dX12_puts_94 kF_X12_303 kY_12 (Or.inl rfl) (l_128 hL) (k_128 hL) (Or.inl rfl) ?_
      refine E_iload_n dX12_puts_97 rfl ?_
      refine E_iload dX12_puts_98 rfl ?_
      refine E_iadd_n dX12_puts_100 ?_
      refine E_iconst (v := nI 1) dX12_puts_101 (by decide) ?_
      refine E_iadd_n dX12_puts_102 ?_
      refine E_iret dX12_puts_103 (Or.inl rfl) ?_
      have h5 := ((((h.putN (i := i) (v := b) (by (try simp only [jnP_len, jnB_len, jnQ_len, mrg_len, prt_len, put_len, num_len, cl_len, op_len]); omega) hb).putN (i := i + 1) (v := cc) (by (try simp only [jnP_len, jnB_len, jnQ_len, mrg_len, prt_len, put_len, num_len, cl_len, op_len]); omega) hc).putN (i := i + 1) (v := cc) (by (try simp only [jnP_len, jnB_len, jnQ_len, mrg_len, prt_len, put_len, num_len, cl_len, op_len]); omega) hc).setW (wPu w i 1))
      refine K (by omega) _ (show mX c f M0 (putsL L i 1 b cc cc) _ _ from ?_)
      unfold wPu at h5 ⊢
      first
        | (rw [cI_t (by assumption)] at h5 ⊢; exact h5)
        | (rw [cI_f (by assumption)] at h5 ⊢; exact h5)
  · refine E_bipush (v := -100) dX12_puts_26 (by decide) ?_
    refine E_iret dX12_puts_28 (Or.inl rfl) ?_
    exact K0 (by omega)
set_option maxRecDepth 100000 in
set_option maxHeartbeats 4000000 in
theorem sp_X12_puts2 {g : gG} {M : gM} {Q : Option Value ⊕ String → gM → Prop} {c : Cf} {f : Nat} {M0 : gM} {L : List Gl} {w : Int32} (h : mX c f M0 L w M) {i b cc d : Nat} (hi : i < L.length) (hb : b < 256) (hc : cc < 256) (hd : d < 256) (K0 : ¬ L.length + 2 ≤ 64 → Q (.inl (some (.int (-100)))) M) (K : L.length + 2 ≤ 64 → ∀ M, mX c f M0 (putsL L i 2 b cc d) (wPu w i 2) M → Q (.inl (some (.int (nI (i + 2 + 1))))) M) : E g 3 0 0 mX12_puts 0 [.ref 129, .int (nI i), .int (nI b), .int (nI cc), .int (nI d), .null] [] M Q := by
  have hL := h.lay
  have hf := h.hf
  have hn := h.len
  refine E_iload dX12_puts_0 rfl ?_
  refine E_bipush (v := -100) dX12_puts_2 (by decide) ?_
  refine E_icmp_ne (tgt := 11) dX12_puts_4 (by decide) (fun _ => ?_) (fun c0 => absurd (nI_ne100 (by omega)) c0)
  refine E_iconst (v := nI 2) dX12_puts_11 (by decide) ?_
  refine E_istore dX12_puts_12 (Nat.le_of_ble_eq_true rfl) (by decide) rfl ?_
  refine E_aload_n dX12_puts_14 rfl ?_
  refine E_getIL (v := nI _) dX12_puts_15 kF_X12_235 kY_12 (Or.inl rfl) (l_128 hL) (k_128 hL) h.gn ?_
  refine E_iload dX12_puts_18 rfl ?_
  refine E_iadd_n dX12_puts_20 ?_
  refine E_bipush (v := nI 64) dX12_puts_21 (by decide) ?_
  refine E_icmp_le_n (tgt := 29) dX12_puts_23 (by decide) (by omega) (by omega) (fun c_23 => ?_) (fun c_23 => ?_)
  · refine E_aload_n dX12_puts_29 rfl ?_
    refine E_iload_n dX12_puts_30 rfl ?_
    refine E_iload dX12_puts_31 rfl ?_
    refine E_callV2 (fr' := 2) (k1 := 0) (n1 := 0) (k2 := 0) (n2 := 0) dX12_puts_33 kO_X12_opens kL_X12_317 (l_128 hL) (k_128 hL) ⟨by decide, rfl⟩ rfl rfl (by decide) (by decide) (by exact Nat.le_of_ble_eq_true rfl) rfl ?_
    refine sp_X12_opens h (by omega) (by omega) (by omega) (fun M h => ?_)
    have hL := h.lay
    have hn := h.len
    refine gKn ?_
    refine E_aload_n dX12_puts_36 rfl ?_
    refine E_getRL dX12_puts_37 kF_X12_63 kY_12 (Or.inr ⟨_, rfl⟩) (l_128 hL) (k_128 hL) (r_128_22 hL) ?_
    refine E_iload_n dX12_puts_40 rfl ?_
    refine E_iload_n dX12_puts_41 rfl ?_
    refine E_iast dX12_puts_42 (l_145 hL) (k_145 hL) rfl (by (try simp only [jnP_len, jnB_len, jnQ_len, mrg_len, prt_len, put_len, num_len, cl_len, op_len]); omega) (by decide) ?_
    refine E_aload_n dX12_puts_43 rfl ?_
    refine E_getRL dX12_puts_44 kF_X12_63 kY_12 (Or.inr ⟨_, rfl⟩) (l_128 hL) (k_128 hL) (r_128_22 hL) ?_
    refine E_iload_n dX12_puts_47 rfl ?_
    refine E_iconst (v := nI 1) dX12_puts_48 (by decide) ?_
    refine E_iadd_n dX12_puts_49 ?_
    refine E_iload_n dX12_puts_50 rfl ?_
    refine E_iast dX12_puts_51 (l_145 hL) (k_145 hL) rfl (by (try simp only [jnP_len, jnB_len, jnQ_len, mrg_len, prt_len, put_len, num_len, cl_len, op_len]); omega) (by decide) ?_
    refine E_aload_n dX12_puts_52 rfl ?_
    refine E_getRL dX12_puts_53 kF_X12_63 kY_12 (Or.inr ⟨_, rfl⟩) (l_128 hL) (k_128 hL) (r_128_22 hL) ?_
    refine E_iload_n dX12_puts_56 rfl ?_
    refine E_iload dX12_puts_57 rfl ?_
    refine E_iadd_n dX12_puts_59 ?_
    refine E_iload dX12_puts_60 rfl ?_
    refine E_bipush (v := -100) dX12_puts_62 (by decide) ?_
    refine E_icmp_ne (tgt := 71) dX12_puts_64 (by decide) (fun _ => ?_) (fun c0 => absurd (nI_ne100 (by omega)) c0)
    refine E_iload dX12_puts_71 rfl ?_
    refine E_iast dX12_puts_73 (l_145 hL) (k_145 hL) rfl (by (try simp only [jnP_len, jnB_len, jnQ_len, mrg_len, prt_len, put_len, num_len, cl_len, op_len]); omega) (by decide) ?_
    refine E_aload_n dX12_puts_74 rfl ?_
    refine E_dup dX12_puts_75 rfl ?_
    refine E_getIL (v := w) dX12_puts_76 kF_X12_303 kY_12 (Or.inl rfl) (l_128 hL) (k_128 hL) h.gw ?_
    refine E_aload_n dX12_puts_79 rfl ?_
    refine E_getIL (v := w) dX12_puts_80 kF_X12_303 kY_12 (Or.inl rfl) (l_128 hL) (k_128 hL) h.gw ?_
    refine E_iload_n dX12_puts_83 rfl ?_
    refine E_icmp_lt (tgt := 92) dX12_puts_84 (by decide) (fun c_84 => ?_) (fun c_84 => ?_)
    · refine E_iconst (v := nI 0) dX12_puts_92 (by decide) ?_
      refine E_iadd dX12_puts_93 ?_
      refine E_putI dX12_puts_94 kF_X12_303 kY_12 (Or.inl rfl) (l_128 hL) (k_128 hL) (Or.inl rfl) ?_
      refine E_iload_n dX12_puts_97 rfl ?_
      refine E_iload dX12_puts_98 rfl ?_
      refine E_iadd_n dX12_puts_100 ?_
      refine E_iconst (v := nI 1) dX12_puts_101 (by decide) ?_
      refine E_iadd_n dX12_puts_102 ?_
      refine E_iret dX12_puts_103 (Or.inl rfl) ?_
      have h5 := ((((h.putN (i := i) (v := b) (by (try simp only [jnP_len, jnB_len, jnQ_len, mrg_len, prt_len, put_len, num_len, cl_len, op_len]); omega) hb).putN (i := i + 1) (v := cc) (by (try simp only [jnP_len, jnB_len, jnQ_len, mrg_len, prt_len, put_len, num_len, cl_len, op_len]); omega) hc).putN (i := i + 2) (v := d) (by (try simp only [jnP_len, jnB_len, jnQ_len, mrg_len, prt_len, put_len, num_len, cl_len, op_len]); omega) hd).setW (wPu w i 2))
      refine K (by omega) _ (show mX c f M0 (putsL L i 2 b cc d) _ _ from ?_)
      unfold wPu at h5 ⊢
      first
        | (rw [cI_t (by assumption)] at h5 ⊢; exact h5)
        | (rw [cI_f (by assumption)] at h5 ⊢; exact h5)
    · refine E_iload dX12_puts_87 rfl ?_
      refine E_goto (tgt := 93) dX12_puts_89 (by decide) ?_
      refine E_iadd dX12_puts_93 ?_
      refine E_putI dX12_puts_94 kF_X12_303 kY_12 (Or.inl rfl) (l_128 hL) (k_128 hL) (Or.inl rfl) ?_
      refine E_iload_n dX12_puts_97 rfl ?_
      refine E_iload dX12_puts_98 rfl ?_
      refine E_iadd_n dX12_puts_100 ?_
      refine E_iconst (v := nI 1) dX12_puts_101 (by decide) ?_
      refine E_iadd_n dX12_puts_102 ?_
      refine E_iret dX12_puts_103 (Or.inl rfl) ?_
      have h5 := ((((h.putN (i := i) (v := b) (by (try simp only [jnP_len, jnB_len, jnQ_len, mrg_len, prt_len, put_len, num_len, cl_len, op_len]); omega) hb).putN (i := i + 1) (v := cc) (by (try simp only [jnP_len, jnB_len, jnQ_len, mrg_len, prt_len, put_len, num_len, cl_len, op_len]); omega) hc).putN (i := i + 2) (v := d) (by (try simp only [jnP_len, jnB_len, jnQ_len, mrg_len, prt_len, put_len, num_len, cl_len, op_len]); omega) hd).setW (wPu w i 2))
      refine K (by omega) _ (show mX c f M0 (putsL L i 2 b cc d) _ _ from ?_)
      unfold wPu at h5 ⊢
      first
        | (rw [cI_t (by assumption)] at h5 ⊢; exact h5)
        | (rw [cI_f (by assumption)] at h5 ⊢; exact h5)
  · refine E_bipush (v := -100) dX12_puts_26 (by decide) ?_
    refine E_iret dX12_puts_28 (Or.inl rfl) ?_
    exact K0 (by omega)
