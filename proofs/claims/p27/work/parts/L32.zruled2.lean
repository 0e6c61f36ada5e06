/-! the law: rules told -/
/-- what holds between the law's turns -/
def lwS (c : Cf) (P π : Nat → Nat) (M : gM) : Prop := kS c P π M ∧ zS c M ∧ wfI c ∧ wfW c ∧ mI M 132 10 = nI 0
theorem zS.kd {c : Cf} {M M' : gM} (h : zS c M) (hk : kd M M') (hL : gLay M') : zS c M' := h.mvG hL (fun a j q q2 _ => (hk.2.2 a j q (by omega)).1) (fun j => (hk.2.2 130 j (by decide) (by decide)).2.1)
theorem uN_same (c : Cf) (hf : fc0 c < 2) : uN c 128 1 (gN (nI (fc0 c))) = c := by
  have h : ∀ v, v = cN c 128 1 → uN c 128 1 v = c := fun v e => by
    have : u2 c.1 128 1 v = c.1 := by
      funext a j
      unfold u2
      by_cases q : a = 128 ∧ j = 1
      · rw [if_pos q, q.1, q.2, e]; rfl
      · rw [if_neg q]
    unfold uN
    rw [this]
  exact h _ (gN_nI (by omega))
theorem w_ruleI {g : gG} {M : gM} {Q : Option Value ⊕ String → gM → Prop} (hst : (gl1 g).stackTraces = false) {c : Cf} {P π : Nat → Nat} (hS : kS c P π M) {p x0 x1 x2 x3 x4 x5 : Int32} (hp : ¬ iBel p (cnt0 c)) (K : Q (.inl (some (.int (-7100)))) M) : E g 8 1 6 mL_rule 0 [.ref 1, .int p, .int x0, .int x1, .int x2, .int x3, .int x4, .int x5, .null, .null] [] M Q := by
  have hc : cnt0 c < 2 ^ 30 := by have := hS.1.wf.2.1 (cN c 128 1); show cN c 129 (cN c 128 1) < 2 ^ 30; omega
  have no : ∀ j, j < cnt0 c → p = nI j → False := fun j hj e => hp ((iBel_iff hc).mpr ⟨j, hj, e⟩)
  exact w_rule hst hS (fun j hj e _ _ _ _ _ => (no j hj e).elim) (fun _ => K) (fun j hj e _ => (no j hj e).elim) (fun j hj e _ _ => (no j hj e).elim)
theorem w_ruleB {g : gG} {M : gM} {Q : Option Value ⊕ String → gM → Prop} (hst : (gl1 g).stackTraces = false) {c : Cf} {P π : Nat → Nat} (hS : kS c P π M) {l : Nat} {x0 x1 x2 x3 x4 x5 : Int32} (hl : l < cnt0 c) (hn : ¬ iRl (cN c 130 (at0 c l)) x0 x1 x2 x3 x4 x5) (K : Q (.inl (some (.int (-7200)))) M) : E g 8 1 6 mL_rule 0 [.ref 1, .int (nI l), .int x0, .int x1, .int x2, .int x3, .int x4, .int x5, .null, .null] [] M Q := by
  have hc : cnt0 c < 2 ^ 30 := by have := hS.1.wf.2.1 (cN c 128 1); show cN c 129 (cN c 128 1) < 2 ^ 30; omega
  have eq : ∀ j, j < cnt0 c → nI l = nI j → l = j := fun j hj e => (nI_eq (by omega) (by omega)).mp e
  exact w_rule hst hS (fun j hj e z _ _ _ _ => by have := eq j hj e; subst this; exact absurd z hn) (fun z => absurd ((iBel_iff hc).mpr ⟨l, hl, rfl⟩) z) (fun j hj e _ => K) (fun j hj e z _ => by have := eq j hj e; subst this; exact absurd z hn)
theorem w_ruleG {g : gG} {M : gM} {Q : Option Value ⊕ String → gM → Prop} (hst : (gl1 g).stackTraces = false) {c : Cf} {P π : Nat → Nat} (hS : kS c P π M) {l : Nat} {x0 x1 x2 x3 x4 x5 : Int32} (hl : l < cnt0 c) (hi : iRl (cN c 130 (at0 c l)) x0 x1 x2 x3 x4 x5) (h8 : cN c 135 (at0 c l) < 8) (K : ∀ M', kS (nxR c (at0 c l) (cN c 135 (at0 c l)) x0 x1 x2 x3 x4 x5) P π M' → kd M M' → Q (.inl (some (.int (nI (cN c 135 (at0 c l) + 1))))) M') : E g 8 1 6 mL_rule 0 [.ref 1, .int (nI l), .int x0, .int x1, .int x2, .int x3, .int x4, .int x5, .null, .null] [] M Q := by
  have hc : cnt0 c < 2 ^ 30 := by have := hS.1.wf.2.1 (cN c 128 1); show cN c 129 (cN c 128 1) < 2 ^ 30; omega
  have eq : ∀ j, j < cnt0 c → nI l = nI j → l = j := fun j hj e => (nI_eq (by omega) (by omega)).mp e
  exact w_rule hst hS (fun j hj e z _ M' h1 h2 => by have := eq j hj e; subst this; exact K M' h1 h2) (fun z => absurd ((iBel_iff hc).mpr ⟨l, hl, rfl⟩) z) (fun j hj e z => by have := eq j hj e; subst this; exact absurd hi z) (fun j hj e _ z => by have := eq j hj e; subst this; omega)
set_option maxRecDepth 100000 in
set_option maxHeartbeats 4000000 in
theorem s1_L_ruled {g : gG} {M : gM} {Q : Option Value ⊕ String → gM → Prop} {u v : Int32} {many l at_ kd : Nat} (hkd : kd < 10) (K : ∀ x, itV (lead1 kd) x → E g 9 12 72 mL_ruled 104 [.ref 1, .int u, .int v, .ref 130, .ref 131, .ref 132, .ref 133, .int (nI many), .int (nI l), .int (nI at_), .int (nI kd), .int x, .null, .null, .null, .null, .null, .null, .null, .null] [] M Q) : E g 9 12 72 mL_ruled 79 [.ref 1, .int u, .int v, .ref 130, .ref 131, .ref 132, .ref 133, .int (nI many), .int (nI l), .int (nI at_), .int (nI kd), .null, .null, .null, .null, .null, .null, .null, .null, .null] [] M Q := by
  refine E_iload_n dL_ruled_79 rfl ?_
  refine E_iconst (v := nI 4) dL_ruled_80 (by decide) ?_
  refine E_ishr dL_ruled_81 ?_
  refine E_iload dL_ruled_82 rfl ?_
  refine E_iconst (v := nI 4) dL_ruled_84 (by decide) ?_
  refine E_icmp_eq_n (tgt := 94) dL_ruled_85 (by decide) (by omega) (by omega) (fun c_85 => ?_) (fun c_85 => ?_)
  · refine E_iconst (v := nI 1) dL_ruled_94 (by decide) ?_
    refine E_goto (tgt := 99) dL_ruled_95 (by decide) ?_
    refine E_callT2 (fr' := 3) (k1 := 0) (n1 := 0) (k2 := 12) (n2 := 72) dL_ruled_99 kO_L_itemBy kL_L_284 (by exact Nat.le_of_ble_eq_true rfl) (by decide) (by exact Nat.le_of_ble_eq_true rfl) (Or.inl rfl) rfl ?_
    refine sp_L_itemBy (by decide) (fun x hx => ?_)
    refine gKv ?_
    refine E_istore dL_ruled_102 (Nat.le_of_ble_eq_true rfl) (by decide) rfl ?_
    refine K x ?_
    unfold lead1
    first
      | (rw [if_pos (by omega)]; exact hx)
      | (rw [if_neg (by omega)]; exact hx)
  · refine E_iload dL_ruled_88 rfl ?_
    refine E_iconst (v := nI 5) dL_ruled_90 (by decide) ?_
    refine E_icmp_ne_n (tgt := 98) dL_ruled_91 (by decide) (by omega) (by omega) (fun c_91 => ?_) (fun c_91 => ?_)
    · refine E_iconst (v := nI 0) dL_ruled_98 (by decide) ?_
      refine E_callT2 (fr' := 3) (k1 := 0) (n1 := 0) (k2 := 12) (n2 := 72) dL_ruled_99 kO_L_itemBy kL_L_284 (by exact Nat.le_of_ble_eq_true rfl) (by decide) (by exact Nat.le_of_ble_eq_true rfl) (Or.inl rfl) rfl ?_
      refine sp_L_itemBy (by decide) (fun x hx => ?_)
      refine gKv ?_
      refine E_istore dL_ruled_102 (Nat.le_of_ble_eq_true rfl) (by decide) rfl ?_
      refine K x ?_
      unfold lead1
      first
        | (rw [if_pos (by omega)]; exact hx)
        | (rw [if_neg (by omega)]; exact hx)
    · refine E_iconst (v := nI 1) dL_ruled_94 (by decide) ?_
      refine E_goto (tgt := 99) dL_ruled_95 (by decide) ?_
      refine E_callT2 (fr' := 3) (k1 := 0) (n1 := 0) (k2 := 12) (n2 := 72) dL_ruled_99 kO_L_itemBy kL_L_284 (by exact Nat.le_of_ble_eq_true rfl) (by decide) (by exact Nat.le_of_ble_eq_true rfl) (Or.inl rfl) rfl ?_
      refine sp_L_itemBy (by decide) (fun x hx => ?_)
      refine gKv ?_
      refine E_istore dL_ruled_102 (Nat.le_of_ble_eq_true rfl) (by decide) rfl ?_
      refine K x ?_
      unfold lead1
      first
        | (rw [if_pos (by omega)]; exact hx)
        | (rw [if_neg (by omega)]; exact hx)
set_option maxRecDepth 100000 in
set_option maxHeartbeats 4000000 in
theorem s2_L_ruled {g : gG} {M : gM} {Q : Option Value ⊕ String → gM → Prop} {u v : Int32} {many l at_ kd : Nat} (hkd : kd < 10) {x0 : Int32} (K : ∀ x, d2 kd x → E g 9 12 72 mL_ruled 200 [.ref 1, .int u, .int v, .ref 130, .ref 131, .ref 132, .ref 133, .int (nI many), .int (nI l), .int (nI at_), .int (nI kd), .int x0, .int x, .null, .null, .null, .null, .null, .null, .null] [] M Q) : E g 9 12 72 mL_ruled 104 [.ref 1, .int u, .int v, .ref 130, .ref 131, .ref 132, .ref 133, .int (nI many), .int (nI l), .int (nI at_), .int (nI kd), .int x0, .null, .null, .null, .null, .null, .null, .null, .null] [] M Q := by
  refine E_iload dL_ruled_104 rfl ?_
  refine E_iconst (v := nI 3) dL_ruled_106 (by decide) ?_
  refine E_icmp_ge_n (tgt := 117) dL_ruled_107 (by decide) (by omega) (by omega) (fun c_107 => ?_) (fun c_107 => ?_)
  · refine E_iload dL_ruled_117 rfl ?_
    refine E_bipush (v := nI 7) dL_ruled_119 (by decide) ?_
    refine E_icmp_ge_n (tgt := 132) dL_ruled_121 (by decide) (by omega) (by omega) (fun c_121 => ?_) (fun c_121 => ?_)
    · refine E_iload dL_ruled_132 rfl ?_
      refine E_bipush (v := nI 7) dL_ruled_134 (by decide) ?_
      refine E_icmp_ne_n (tgt := 164) dL_ruled_136 (by decide) (by omega) (by omega) (fun c_136 => ?_) (fun c_136 => ?_)
      · refine E_iload dL_ruled_164 rfl ?_
        refine E_bipush (v := nI 8) dL_ruled_166 (by decide) ?_
        refine E_icmp_ne_n (tgt := 193) dL_ruled_168 (by decide) (by omega) (by omega) (fun c_168 => ?_) (fun c_168 => ?_)
        · refine E_iload_n dL_ruled_193 rfl ?_
          refine E_iconst (v := nI 2) dL_ruled_194 (by decide) ?_
          refine E_callT2 (fr' := 1) (k1 := 0) (n1 := 0) (k2 := 12) (n2 := 72) dL_ruled_195 kO_L_low kL_L_229 (by exact Nat.le_of_ble_eq_true rfl) (by decide) (by exact Nat.le_of_ble_eq_true rfl) (Or.inl rfl) rfl ?_
          refine sp_L_low (by omega) (by omega) ?_
          refine gKv ?_
          refine E_istore dL_ruled_198 (Nat.le_of_ble_eq_true rfl) (by decide) rfl ?_
          refine K _ ⟨fun q => ?_, fun q q2 => ?_, fun q => ?_, fun q => ?_, fun q => ?_⟩
          all_goals first
              | (exfalso; omega)
              | assumption
              | exact ⟨_, by assumption, rfl⟩
              | exact Or.inl rfl
              | rfl
              | exact ⟨_, lowN_lt _ (by decide), rfl⟩
              | exact Or.inr ⟨_, lowN_lt _ (by decide), rfl⟩
              | exact Or.inr ⟨_, by assumption, rfl⟩
        · refine E_iload_n dL_ruled_171 rfl ?_
          refine E_bipush (v := nI 6) dL_ruled_172 (by decide) ?_
          refine E_iand dL_ruled_174 ?_
          refine E_if_ne_r (tgt := 188) dL_ruled_175 (by decide) (fun c_175 => ?_) (fun c_175 => ?_)
          · refine E_bipush (v := -100) dL_ruled_188 (by decide) ?_
            refine E_goto (tgt := 198) dL_ruled_190 (by decide) ?_
            refine E_istore dL_ruled_198 (Nat.le_of_ble_eq_true rfl) (by decide) rfl ?_
            refine K _ ⟨fun q => ?_, fun q q2 => ?_, fun q => ?_, fun q => ?_, fun q => ?_⟩
            all_goals first
                | (exfalso; omega)
                | assumption
                | exact ⟨_, by assumption, rfl⟩
                | exact Or.inl rfl
                | rfl
                | exact ⟨_, lowN_lt _ (by decide), rfl⟩
                | exact Or.inr ⟨_, lowN_lt _ (by decide), rfl⟩
                | exact Or.inr ⟨_, by assumption, rfl⟩
          · refine E_iload_n dL_ruled_178 rfl ?_
            refine E_iconst (v := nI 3) dL_ruled_179 (by decide) ?_
            refine E_ishr dL_ruled_180 ?_
            refine E_iconst (v := nI 3) dL_ruled_181 (by decide) ?_
            refine E_callT2 (fr' := 1) (k1 := 0) (n1 := 0) (k2 := 12) (n2 := 72) dL_ruled_182 kO_L_low kL_L_229 (by exact Nat.le_of_ble_eq_true rfl) (by decide) (by exact Nat.le_of_ble_eq_true rfl) (Or.inl rfl) rfl ?_
            refine sp_L_low (by omega) (by omega) ?_
            refine gKv ?_
            refine E_goto (tgt := 198) dL_ruled_185 (by decide) ?_
            refine E_istore dL_ruled_198 (Nat.le_of_ble_eq_true rfl) (by decide) rfl ?_
            refine K _ ⟨fun q => ?_, fun q q2 => ?_, fun q => ?_, fun q => ?_, fun q => ?_⟩
            all_goals first
                | (exfalso; omega)
                | assumption
                | exact ⟨_, by assumption, rfl⟩
                | exact Or.inl rfl
                | rfl
                | exact ⟨_, lowN_lt _ (by decide), rfl⟩
                | exact Or.inr ⟨_, lowN_lt _ (by decide), rfl⟩
                | exact Or.inr ⟨_, by assumption, rfl⟩
      · refine E_iload_n dL_ruled_139 rfl ?_
        refine E_bipush (v := nI 6) dL_ruled_140 (by decide) ?_
        refine E_iand dL_ruled_142 ?_
        refine E_if_ne_r (tgt := 151) dL_ruled_143 (by decide) (fun c_143 => ?_) (fun c_143 => ?_)
        · refine E_iload_n dL_ruled_151 rfl ?_
          refine E_iconst (v := nI 3) dL_ruled_152 (by decide) ?_
          refine E_ishr dL_ruled_153 ?_
          refine E_bipush (v := nI 9) dL_ruled_154 (by decide) ?_
          refine E_callT2 (fr' := 1) (k1 := 0) (n1 := 0) (k2 := 12) (n2 := 72) dL_ruled_156 kO_L_low kL_L_229 (by exact Nat.le_of_ble_eq_true rfl) (by decide) (by exact Nat.le_of_ble_eq_true rfl) (Or.inl rfl) rfl ?_
          refine sp_L_low (by omega) (by omega) ?_
          refine gKv ?_
          refine E_iconst (v := nI 4) dL_ruled_159 (by decide) ?_
          refine E_isub dL_ruled_160 ?_
          refine E_goto (tgt := 198) dL_ruled_161 (by decide) ?_
          refine E_istore dL_ruled_198 (Nat.le_of_ble_eq_true rfl) (by decide) rfl ?_
          refine K _ ⟨fun q => ?_, fun q q2 => ?_, fun q => ?_, fun q => ?_, fun q => ?_⟩
          all_goals first
              | (exfalso; omega)
              | assumption
              | exact ⟨_, by assumption, rfl⟩
              | exact Or.inl rfl
              | rfl
              | exact ⟨_, lowN_lt _ (by decide), rfl⟩
              | exact Or.inr ⟨_, lowN_lt _ (by decide), rfl⟩
              | exact Or.inr ⟨_, by assumption, rfl⟩
        · refine E_bipush (v := -100) dL_ruled_146 (by decide) ?_
          refine E_goto (tgt := 198) dL_ruled_148 (by decide) ?_
          refine E_istore dL_ruled_198 (Nat.le_of_ble_eq_true rfl) (by decide) rfl ?_
          refine K _ ⟨fun q => ?_, fun q q2 => ?_, fun q => ?_, fun q => ?_, fun q => ?_⟩
          all_goals first
              | (exfalso; omega)
              | assumption
              | exact ⟨_, by assumption, rfl⟩
              | exact Or.inl rfl
              | rfl
              | exact ⟨_, lowN_lt _ (by decide), rfl⟩
              | exact Or.inr ⟨_, lowN_lt _ (by decide), rfl⟩
              | exact Or.inr ⟨_, by assumption, rfl⟩
    · refine E_iload_n dL_ruled_124 rfl ?_
      refine E_iconst (v := nI 0) dL_ruled_125 (by decide) ?_
      refine E_callT2 (fr' := 3) (k1 := 0) (n1 := 0) (k2 := 12) (n2 := 72) dL_ruled_126 kO_L_itemBy kL_L_284 (by exact Nat.le_of_ble_eq_true rfl) (by decide) (by exact Nat.le_of_ble_eq_true rfl) (Or.inl rfl) rfl ?_
      refine sp_L_itemBy (by decide) (fun x hx => ?_)
      refine gKv ?_
      refine E_goto (tgt := 198) dL_ruled_129 (by decide) ?_
      refine E_istore dL_ruled_198 (Nat.le_of_ble_eq_true rfl) (by decide) rfl ?_
      refine K _ ⟨fun q => ?_, fun q q2 => ?_, fun q => ?_, fun q => ?_, fun q => ?_⟩
      all_goals first
          | (exfalso; omega)
          | assumption
          | exact ⟨_, by assumption, rfl⟩
          | exact Or.inl rfl
          | rfl
          | exact ⟨_, lowN_lt _ (by decide), rfl⟩
          | exact Or.inr ⟨_, lowN_lt _ (by decide), rfl⟩
          | exact Or.inr ⟨_, by assumption, rfl⟩
  · refine E_iload_n dL_ruled_110 rfl ?_
    refine E_callT1 (fr' := 2) (k1 := 0) (n1 := 0) (k2 := 12) (n2 := 72) dL_ruled_111 kO_L_glyphBy kL_L_288 (by exact Nat.le_of_ble_eq_true rfl) (by decide) (by exact Nat.le_of_ble_eq_true rfl) (Or.inl rfl) rfl ?_
    refine sp_L_glyphBy (fun j hj => ?_)
    refine gKv ?_
    refine E_goto (tgt := 198) dL_ruled_114 (by decide) ?_
    refine E_istore dL_ruled_198 (Nat.le_of_ble_eq_true rfl) (by decide) rfl ?_
    refine K _ ⟨fun q => ?_, fun q q2 => ?_, fun q => ?_, fun q => ?_, fun q => ?_⟩
    all_goals first
        | (exfalso; omega)
        | assumption
        | exact ⟨_, by assumption, rfl⟩
        | exact Or.inl rfl
        | rfl
        | exact ⟨_, lowN_lt _ (by decide), rfl⟩
        | exact Or.inr ⟨_, lowN_lt _ (by decide), rfl⟩
        | exact Or.inr ⟨_, by assumption, rfl⟩
set_option maxRecDepth 100000 in
set_option maxHeartbeats 4000000 in
theorem s3_L_ruled {g : gG} {M : gM} {Q : Option Value ⊕ String → gM → Prop} {u v : Int32} {many l at_ kd : Nat} (hkd : kd < 10) {x0 x1 : Int32} (K : ∀ x, d3 kd x → E g 9 12 72 mL_ruled 295 [.ref 1, .int u, .int v, .ref 130, .ref 131, .ref 132, .ref 133, .int (nI many), .int (nI l), .int (nI at_), .int (nI kd), .int x0, .int x1, .int x, .null, .null, .null, .null, .null, .null] [] M Q) : E g 9 12 72 mL_ruled 200 [.ref 1, .int u, .int v, .ref 130, .ref 131, .ref 132, .ref 133, .int (nI many), .int (nI l), .int (nI at_), .int (nI kd), .int x0, .int x1, .null, .null, .null, .null, .null, .null, .null] [] M Q := by
  refine E_iload dL_ruled_200 rfl ?_
  refine E_if_ne_n (tgt := 209) dL_ruled_202 (by decide) (by omega) (fun c_202 => ?_) (fun c_202 => ?_)
  · refine E_iload dL_ruled_209 rfl ?_
    refine E_iconst (v := nI 3) dL_ruled_211 (by decide) ?_
    refine E_icmp_ge_n (tgt := 225) dL_ruled_212 (by decide) (by omega) (by omega) (fun c_212 => ?_) (fun c_212 => ?_)
    · refine E_iload dL_ruled_225 rfl ?_
      refine E_bipush (v := nI 6) dL_ruled_227 (by decide) ?_
      refine E_icmp_ge_n (tgt := 243) dL_ruled_229 (by decide) (by omega) (by omega) (fun c_229 => ?_) (fun c_229 => ?_)
      · refine E_iload dL_ruled_243 rfl ?_
        refine E_bipush (v := nI 7) dL_ruled_245 (by decide) ?_
        refine E_icmp_ne_n (tgt := 263) dL_ruled_247 (by decide) (by omega) (by omega) (fun c_247 => ?_) (fun c_247 => ?_)
        · refine E_iload dL_ruled_263 rfl ?_
          refine E_bipush (v := nI 8) dL_ruled_265 (by decide) ?_
          refine E_icmp_ne_n (tgt := 281) dL_ruled_267 (by decide) (by omega) (by omega) (fun c_267 => ?_) (fun c_267 => ?_)
          · refine E_iload_n dL_ruled_281 rfl ?_
            refine E_bipush (v := nI 9) dL_ruled_282 (by decide) ?_
            refine E_ishr dL_ruled_284 ?_
            refine E_bipush (v := nI 21) dL_ruled_285 (by decide) ?_
            refine E_callT2 (fr' := 1) (k1 := 0) (n1 := 0) (k2 := 12) (n2 := 72) dL_ruled_287 kO_L_low kL_L_229 (by exact Nat.le_of_ble_eq_true rfl) (by decide) (by exact Nat.le_of_ble_eq_true rfl) (Or.inl rfl) rfl ?_
            refine sp_L_low (by omega) (by omega) ?_
            refine gKv ?_
            refine E_bipush (v := nI 10) dL_ruled_290 (by decide) ?_
            refine E_isub dL_ruled_292 ?_
            refine E_istore dL_ruled_293 (Nat.le_of_ble_eq_true rfl) (by decide) rfl ?_
            refine K _ ⟨fun q => ?_, fun q => ?_, fun q q2 => ?_, fun q => ?_, fun q => ?_, fun q => ?_⟩
            all_goals first
                | (exfalso; omega)
                | assumption
                | exact ⟨_, by assumption, rfl⟩
                | exact Or.inl rfl
                | rfl
                | exact ⟨_, lowN_lt _ (by decide), rfl⟩
                | exact Or.inr ⟨_, lowN_lt _ (by decide), rfl⟩
                | exact Or.inr ⟨_, by assumption, rfl⟩
          · refine E_iload_n dL_ruled_270 rfl ?_
            refine E_bipush (v := nI 9) dL_ruled_271 (by decide) ?_
            refine E_ishr dL_ruled_273 ?_
            refine E_iconst (v := nI 2) dL_ruled_274 (by decide) ?_
            refine E_callT2 (fr' := 1) (k1 := 0) (n1 := 0) (k2 := 12) (n2 := 72) dL_ruled_275 kO_L_low kL_L_229 (by exact Nat.le_of_ble_eq_true rfl) (by decide) (by exact Nat.le_of_ble_eq_true rfl) (Or.inl rfl) rfl ?_
            refine sp_L_low (by omega) (by omega) ?_
            refine gKv ?_
            refine E_goto (tgt := 293) dL_ruled_278 (by decide) ?_
            refine E_istore dL_ruled_293 (Nat.le_of_ble_eq_true rfl) (by decide) rfl ?_
            refine K _ ⟨fun q => ?_, fun q => ?_, fun q q2 => ?_, fun q => ?_, fun q => ?_, fun q => ?_⟩
            all_goals first
                | (exfalso; omega)
                | assumption
                | exact ⟨_, by assumption, rfl⟩
                | exact Or.inl rfl
                | rfl
                | exact ⟨_, lowN_lt _ (by decide), rfl⟩
                | exact Or.inr ⟨_, lowN_lt _ (by decide), rfl⟩
                | exact Or.inr ⟨_, by assumption, rfl⟩
        · refine E_iload_n dL_ruled_250 rfl ?_
          refine E_sipush (v := nI 1536) dL_ruled_251 (by decide) ?_
          refine E_iand dL_ruled_254 ?_
          refine E_if_ne_r (tgt := 263) dL_ruled_255 (by decide) (fun c_255 => ?_) (fun c_255 => ?_)
          · refine E_iload dL_ruled_263 rfl ?_
            refine E_bipush (v := nI 8) dL_ruled_265 (by decide) ?_
            refine E_icmp_ne_n (tgt := 281) dL_ruled_267 (by decide) (by omega) (by omega) (fun c_267 => ?_) (fun c_267 => ?_)
            · refine E_iload_n dL_ruled_281 rfl ?_
              refine E_bipush (v := nI 9) dL_ruled_282 (by decide) ?_
              refine E_ishr dL_ruled_284 ?_
              refine E_bipush (v := nI 21) dL_ruled_285 (by decide) ?_
              refine E_callT2 (fr' := 1) (k1 := 0) (n1 := 0) (k2 := 12) (n2 := 72) dL_ruled_287 kO_L_low kL_L_229 (by exact Nat.le_of_ble_eq_true rfl) (by decide) (by exact Nat.le_of_ble_eq_true rfl) (Or.inl rfl) rfl ?_
              refine sp_L_low (by omega) (by omega) ?_
              refine gKv ?_
              refine E_bipush (v := nI 10) dL_ruled_290 (by decide) ?_
              refine E_isub dL_ruled_292 ?_
              refine E_istore dL_ruled_293 (Nat.le_of_ble_eq_true rfl) (by decide) rfl ?_
              refine K _ ⟨fun q => ?_, fun q => ?_, fun q q2 => ?_, fun q => ?_, fun q => ?_, fun q => ?_⟩
              all_goals first
                  | (exfalso; omega)
                  | assumption
                  | exact ⟨_, by assumption, rfl⟩
                  | exact Or.inl rfl
                  | rfl
                  | exact ⟨_, lowN_lt _ (by decide), rfl⟩
                  | exact Or.inr ⟨_, lowN_lt _ (by decide), rfl⟩
                  | exact Or.inr ⟨_, by assumption, rfl⟩
            · refine E_iload_n dL_ruled_270 rfl ?_
              refine E_bipush (v := nI 9) dL_ruled_271 (by decide) ?_
              refine E_ishr dL_ruled_273 ?_
              refine E_iconst (v := nI 2) dL_ruled_274 (by decide) ?_
              refine E_callT2 (fr' := 1) (k1 := 0) (n1 := 0) (k2 := 12) (n2 := 72) dL_ruled_275 kO_L_low kL_L_229 (by exact Nat.le_of_ble_eq_true rfl) (by decide) (by exact Nat.le_of_ble_eq_true rfl) (Or.inl rfl) rfl ?_
              refine sp_L_low (by omega) (by omega) ?_
              refine gKv ?_
              refine E_goto (tgt := 293) dL_ruled_278 (by decide) ?_
              refine E_istore dL_ruled_293 (Nat.le_of_ble_eq_true rfl) (by decide) rfl ?_
              refine K _ ⟨fun q => ?_, fun q => ?_, fun q q2 => ?_, fun q => ?_, fun q => ?_, fun q => ?_⟩
              all_goals first
                  | (exfalso; omega)
                  | assumption
                  | exact ⟨_, by assumption, rfl⟩
                  | exact Or.inl rfl
                  | rfl
                  | exact ⟨_, lowN_lt _ (by decide), rfl⟩
                  | exact Or.inr ⟨_, lowN_lt _ (by decide), rfl⟩
                  | exact Or.inr ⟨_, by assumption, rfl⟩
          · refine E_bipush (v := -100) dL_ruled_258 (by decide) ?_
            refine E_goto (tgt := 293) dL_ruled_260 (by decide) ?_
            refine E_istore dL_ruled_293 (Nat.le_of_ble_eq_true rfl) (by decide) rfl ?_
            refine K _ ⟨fun q => ?_, fun q => ?_, fun q q2 => ?_, fun q => ?_, fun q => ?_, fun q => ?_⟩
            all_goals first
                | (exfalso; omega)
                | assumption
                | exact ⟨_, by assumption, rfl⟩
                | exact Or.inl rfl
                | rfl
                | exact ⟨_, lowN_lt _ (by decide), rfl⟩
                | exact Or.inr ⟨_, lowN_lt _ (by decide), rfl⟩
                | exact Or.inr ⟨_, by assumption, rfl⟩
      · refine E_iload_n dL_ruled_232 rfl ?_
        refine E_bipush (v := nI 9) dL_ruled_233 (by decide) ?_
        refine E_ishr dL_ruled_235 ?_
        refine E_iconst (v := nI 1) dL_ruled_236 (by decide) ?_
        refine E_callT2 (fr' := 3) (k1 := 0) (n1 := 0) (k2 := 12) (n2 := 72) dL_ruled_237 kO_L_itemBy kL_L_284 (by exact Nat.le_of_ble_eq_true rfl) (by decide) (by exact Nat.le_of_ble_eq_true rfl) (Or.inl rfl) rfl ?_
        refine sp_L_itemBy (by decide) (fun x hx => ?_)
        refine gKv ?_
        refine E_goto (tgt := 293) dL_ruled_240 (by decide) ?_
        refine E_istore dL_ruled_293 (Nat.le_of_ble_eq_true rfl) (by decide) rfl ?_
        refine K _ ⟨fun q => ?_, fun q => ?_, fun q q2 => ?_, fun q => ?_, fun q => ?_, fun q => ?_⟩
        all_goals first
            | (exfalso; omega)
            | assumption
            | exact ⟨_, by assumption, rfl⟩
            | exact Or.inl rfl
            | rfl
            | exact ⟨_, lowN_lt _ (by decide), rfl⟩
            | exact Or.inr ⟨_, lowN_lt _ (by decide), rfl⟩
            | exact Or.inr ⟨_, by assumption, rfl⟩
    · refine E_iload_n dL_ruled_215 rfl ?_
      refine E_bipush (v := nI 9) dL_ruled_216 (by decide) ?_
      refine E_ishr dL_ruled_218 ?_
      refine E_callT1 (fr' := 2) (k1 := 0) (n1 := 0) (k2 := 12) (n2 := 72) dL_ruled_219 kO_L_glyphBy kL_L_288 (by exact Nat.le_of_ble_eq_true rfl) (by decide) (by exact Nat.le_of_ble_eq_true rfl) (Or.inl rfl) rfl ?_
      refine sp_L_glyphBy (fun j hj => ?_)
      refine gKv ?_
      refine E_goto (tgt := 293) dL_ruled_222 (by decide) ?_
      refine E_istore dL_ruled_293 (Nat.le_of_ble_eq_true rfl) (by decide) rfl ?_
      refine K _ ⟨fun q => ?_, fun q => ?_, fun q q2 => ?_, fun q => ?_, fun q => ?_, fun q => ?_⟩
      all_goals first
          | (exfalso; omega)
          | assumption
          | exact ⟨_, by assumption, rfl⟩
          | exact Or.inl rfl
          | rfl
          | exact ⟨_, lowN_lt _ (by decide), rfl⟩
          | exact Or.inr ⟨_, lowN_lt _ (by decide), rfl⟩
          | exact Or.inr ⟨_, by assumption, rfl⟩
  · refine E_iconst (v := nI 0) dL_ruled_205 (by decide) ?_
    refine E_goto (tgt := 293) dL_ruled_206 (by decide) ?_
    refine E_istore dL_ruled_293 (Nat.le_of_ble_eq_true rfl) (by decide) rfl ?_
    refine K _ ⟨fun q => ?_, fun q => ?_, fun q q2 => ?_, fun q => ?_, fun q => ?_, fun q => ?_⟩
    all_goals first
        | (exfalso; omega)
        | assumption
        | exact ⟨_, by assumption, rfl⟩
        | exact Or.inl rfl
        | rfl
        | exact ⟨_, lowN_lt _ (by decide), rfl⟩
        | exact Or.inr ⟨_, lowN_lt _ (by decide), rfl⟩
        | exact Or.inr ⟨_, by assumption, rfl⟩
set_option maxRecDepth 100000 in
set_option maxHeartbeats 4000000 in
theorem s4_L_ruled {g : gG} {M : gM} {Q : Option Value ⊕ String → gM → Prop} {u v : Int32} {many l at_ kd : Nat} (hkd : kd < 10) {x0 x1 x2 : Int32} (K : ∀ x, d4 kd x → E g 9 12 72 mL_ruled 393 [.ref 1, .int u, .int v, .ref 130, .ref 131, .ref 132, .ref 133, .int (nI many), .int (nI l), .int (nI at_), .int (nI kd), .int x0, .int x1, .int x2, .int x, .null, .null, .null, .null, .null] [] M Q) : E g 9 12 72 mL_ruled 295 [.ref 1, .int u, .int v, .ref 130, .ref 131, .ref 132, .ref 133, .int (nI many), .int (nI l), .int (nI at_), .int (nI kd), .int x0, .int x1, .int x2, .null, .null, .null, .null, .null, .null] [] M Q := by
  refine E_iload dL_ruled_295 rfl ?_
  refine E_iconst (v := nI 1) dL_ruled_297 (by decide) ?_
  refine E_icmp_ne_n (tgt := 324) dL_ruled_298 (by decide) (by omega) (by omega) (fun c_298 => ?_) (fun c_298 => ?_)
  · refine E_iload dL_ruled_324 rfl ?_
    refine E_iconst (v := nI 2) dL_ruled_326 (by decide) ?_
    refine E_icmp_eq_n (tgt := 342) dL_ruled_327 (by decide) (by omega) (by omega) (fun c_327 => ?_) (fun c_327 => ?_)
    · refine E_iload_n dL_ruled_342 rfl ?_
      refine E_bipush (v := nI 17) dL_ruled_343 (by decide) ?_
      refine E_ishr dL_ruled_345 ?_
      refine E_callT1 (fr' := 2) (k1 := 0) (n1 := 0) (k2 := 12) (n2 := 72) dL_ruled_346 kO_L_glyphBy kL_L_288 (by exact Nat.le_of_ble_eq_true rfl) (by decide) (by exact Nat.le_of_ble_eq_true rfl) (Or.inl rfl) rfl ?_
      refine sp_L_glyphBy (fun j hj => ?_)
      refine gKv ?_
      refine E_goto (tgt := 391) dL_ruled_349 (by decide) ?_
      refine E_istore dL_ruled_391 (Nat.le_of_ble_eq_true rfl) (by decide) rfl ?_
      refine K _ ⟨fun q => ?_, fun q => ?_, fun q => ?_, fun q => ?_, fun q => ?_⟩
      all_goals first
          | (exfalso; omega)
          | assumption
          | exact ⟨_, by assumption, rfl⟩
          | exact Or.inl rfl
          | rfl
          | exact ⟨_, lowN_lt _ (by decide), rfl⟩
          | exact Or.inr ⟨_, lowN_lt _ (by decide), rfl⟩
          | exact Or.inr ⟨_, by assumption, rfl⟩
    · refine E_iload dL_ruled_330 rfl ?_
      refine E_iconst (v := nI 3) dL_ruled_332 (by decide) ?_
      refine E_icmp_eq_n (tgt := 342) dL_ruled_333 (by decide) (by omega) (by omega) (fun c_333 => ?_) (fun c_333 => ?_)
      · refine E_iload_n dL_ruled_342 rfl ?_
        refine E_bipush (v := nI 17) dL_ruled_343 (by decide) ?_
        refine E_ishr dL_ruled_345 ?_
        refine E_callT1 (fr' := 2) (k1 := 0) (n1 := 0) (k2 := 12) (n2 := 72) dL_ruled_346 kO_L_glyphBy kL_L_288 (by exact Nat.le_of_ble_eq_true rfl) (by decide) (by exact Nat.le_of_ble_eq_true rfl) (Or.inl rfl) rfl ?_
        refine sp_L_glyphBy (fun j hj => ?_)
        refine gKv ?_
        refine E_goto (tgt := 391) dL_ruled_349 (by decide) ?_
        refine E_istore dL_ruled_391 (Nat.le_of_ble_eq_true rfl) (by decide) rfl ?_
        refine K _ ⟨fun q => ?_, fun q => ?_, fun q => ?_, fun q => ?_, fun q => ?_⟩
        all_goals first
            | (exfalso; omega)
            | assumption
            | exact ⟨_, by assumption, rfl⟩
            | exact Or.inl rfl
            | rfl
            | exact ⟨_, lowN_lt _ (by decide), rfl⟩
            | exact Or.inr ⟨_, lowN_lt _ (by decide), rfl⟩
            | exact Or.inr ⟨_, by assumption, rfl⟩
      · refine E_iload dL_ruled_336 rfl ?_
        refine E_iconst (v := nI 5) dL_ruled_338 (by decide) ?_
        refine E_icmp_ne_n (tgt := 352) dL_ruled_339 (by decide) (by omega) (by omega) (fun c_339 => ?_) (fun c_339 => ?_)
        · refine E_iload dL_ruled_352 rfl ?_
          refine E_iconst (v := nI 4) dL_ruled_354 (by decide) ?_
          refine E_icmp_ne_n (tgt := 369) dL_ruled_355 (by decide) (by omega) (by omega) (fun c_355 => ?_) (fun c_355 => ?_)
          · refine E_iload dL_ruled_369 rfl ?_
            refine E_bipush (v := nI 7) dL_ruled_371 (by decide) ?_
            refine E_icmp_le_n (tgt := 390) dL_ruled_373 (by decide) (by omega) (by omega) (fun c_373 => ?_) (fun c_373 => ?_)
            · refine E_iconst (v := nI 0) dL_ruled_390 (by decide) ?_
              refine E_istore dL_ruled_391 (Nat.le_of_ble_eq_true rfl) (by decide) rfl ?_
              refine K _ ⟨fun q => ?_, fun q => ?_, fun q => ?_, fun q => ?_, fun q => ?_⟩
              all_goals first
                  | (exfalso; omega)
                  | assumption
                  | exact ⟨_, by assumption, rfl⟩
                  | exact Or.inl rfl
                  | rfl
                  | exact ⟨_, lowN_lt _ (by decide), rfl⟩
                  | exact Or.inr ⟨_, lowN_lt _ (by decide), rfl⟩
                  | exact Or.inr ⟨_, by assumption, rfl⟩
            · refine E_iload_n dL_ruled_376 rfl ?_
              refine E_bipush (v := nI 17) dL_ruled_377 (by decide) ?_
              refine E_ishr dL_ruled_379 ?_
              refine E_bipush (v := nI 9) dL_ruled_380 (by decide) ?_
              refine E_callT2 (fr' := 1) (k1 := 0) (n1 := 0) (k2 := 12) (n2 := 72) dL_ruled_382 kO_L_low kL_L_229 (by exact Nat.le_of_ble_eq_true rfl) (by decide) (by exact Nat.le_of_ble_eq_true rfl) (Or.inl rfl) rfl ?_
              refine sp_L_low (by omega) (by omega) ?_
              refine gKv ?_
              refine E_iconst (v := nI 4) dL_ruled_385 (by decide) ?_
              refine E_isub dL_ruled_386 ?_
              refine E_goto (tgt := 391) dL_ruled_387 (by decide) ?_
              refine E_istore dL_ruled_391 (Nat.le_of_ble_eq_true rfl) (by decide) rfl ?_
              refine K _ ⟨fun q => ?_, fun q => ?_, fun q => ?_, fun q => ?_, fun q => ?_⟩
              all_goals first
                  | (exfalso; omega)
                  | assumption
                  | exact ⟨_, by assumption, rfl⟩
                  | exact Or.inl rfl
                  | rfl
                  | exact ⟨_, lowN_lt _ (by decide), rfl⟩
                  | exact Or.inr ⟨_, lowN_lt _ (by decide), rfl⟩
                  | exact Or.inr ⟨_, by assumption, rfl⟩
          · refine E_iload_n dL_ruled_358 rfl ?_
            refine E_bipush (v := nI 17) dL_ruled_359 (by decide) ?_
            refine E_ishr dL_ruled_361 ?_
            refine E_iconst (v := nI 1) dL_ruled_362 (by decide) ?_
            refine E_callT2 (fr' := 3) (k1 := 0) (n1 := 0) (k2 := 12) (n2 := 72) dL_ruled_363 kO_L_itemBy kL_L_284 (by exact Nat.le_of_ble_eq_true rfl) (by decide) (by exact Nat.le_of_ble_eq_true rfl) (Or.inl rfl) rfl ?_
            refine sp_L_itemBy (by decide) (fun x hx => ?_)
            refine gKv ?_
            refine E_goto (tgt := 391) dL_ruled_366 (by decide) ?_
            refine E_istore dL_ruled_391 (Nat.le_of_ble_eq_true rfl) (by decide) rfl ?_
            refine K _ ⟨fun q => ?_, fun q => ?_, fun q => ?_, fun q => ?_, fun q => ?_⟩
            all_goals first
                | (exfalso; omega)
                | assumption
                | exact ⟨_, by assumption, rfl⟩
                | exact Or.inl rfl
                | rfl
                | exact ⟨_, lowN_lt _ (by decide), rfl⟩
                | exact Or.inr ⟨_, lowN_lt _ (by decide), rfl⟩
                | exact Or.inr ⟨_, by assumption, rfl⟩
        · refine E_iload_n dL_ruled_342 rfl ?_
          refine E_bipush (v := nI 17) dL_ruled_343 (by decide) ?_
          refine E_ishr dL_ruled_345 ?_
          refine E_callT1 (fr' := 2) (k1 := 0) (n1 := 0) (k2 := 12) (n2 := 72) dL_ruled_346 kO_L_glyphBy kL_L_288 (by exact Nat.le_of_ble_eq_true rfl) (by decide) (by exact Nat.le_of_ble_eq_true rfl) (Or.inl rfl) rfl ?_
          refine sp_L_glyphBy (fun j hj => ?_)
          refine gKv ?_
          refine E_goto (tgt := 391) dL_ruled_349 (by decide) ?_
          refine E_istore dL_ruled_391 (Nat.le_of_ble_eq_true rfl) (by decide) rfl ?_
          refine K _ ⟨fun q => ?_, fun q => ?_, fun q => ?_, fun q => ?_, fun q => ?_⟩
          all_goals first
              | (exfalso; omega)
              | assumption
              | exact ⟨_, by assumption, rfl⟩
              | exact Or.inl rfl
              | rfl
              | exact ⟨_, lowN_lt _ (by decide), rfl⟩
              | exact Or.inr ⟨_, lowN_lt _ (by decide), rfl⟩
              | exact Or.inr ⟨_, by assumption, rfl⟩
  · refine E_iload_n dL_ruled_301 rfl ?_
    refine E_ldcw (v := nI 196608) dL_ruled_302 (gW_at 1287 (by decide +kernel) (by decide +kernel)) ?_
    refine E_iand dL_ruled_305 ?_
    refine E_if_ne_r (tgt := 319) dL_ruled_306 (by decide) (fun c_306 => ?_) (fun c_306 => ?_)
    · refine E_bipush (v := -100) dL_ruled_319 (by decide) ?_
      refine E_goto (tgt := 391) dL_ruled_321 (by decide) ?_
      refine E_istore dL_ruled_391 (Nat.le_of_ble_eq_true rfl) (by decide) rfl ?_
      refine K _ ⟨fun q => ?_, fun q => ?_, fun q => ?_, fun q => ?_, fun q => ?_⟩
      all_goals first
          | (exfalso; omega)
          | assumption
          | exact ⟨_, by assumption, rfl⟩
          | exact Or.inl rfl
          | rfl
          | exact ⟨_, lowN_lt _ (by decide), rfl⟩
          | exact Or.inr ⟨_, lowN_lt _ (by decide), rfl⟩
          | exact Or.inr ⟨_, by assumption, rfl⟩
    · refine E_iload_n dL_ruled_309 rfl ?_
      refine E_bipush (v := nI 18) dL_ruled_310 (by decide) ?_
      refine E_ishr dL_ruled_312 ?_
      refine E_callT1 (fr' := 2) (k1 := 0) (n1 := 0) (k2 := 12) (n2 := 72) dL_ruled_313 kO_L_glyphBy kL_L_288 (by exact Nat.le_of_ble_eq_true rfl) (by decide) (by exact Nat.le_of_ble_eq_true rfl) (Or.inl rfl) rfl ?_
      refine sp_L_glyphBy (fun j hj => ?_)
      refine gKv ?_
      refine E_goto (tgt := 391) dL_ruled_316 (by decide) ?_
      refine E_istore dL_ruled_391 (Nat.le_of_ble_eq_true rfl) (by decide) rfl ?_
      refine K _ ⟨fun q => ?_, fun q => ?_, fun q => ?_, fun q => ?_, fun q => ?_⟩
      all_goals first
          | (exfalso; omega)
          | assumption
          | exact ⟨_, by assumption, rfl⟩
          | exact Or.inl rfl
          | rfl
          | exact ⟨_, lowN_lt _ (by decide), rfl⟩
          | exact Or.inr ⟨_, lowN_lt _ (by decide), rfl⟩
          | exact Or.inr ⟨_, by assumption, rfl⟩
set_option maxRecDepth 100000 in
set_option maxHeartbeats 4000000 in
theorem s5_L_ruled {g : gG} {M : gM} {Q : Option Value ⊕ String → gM → Prop} {u v : Int32} {many l at_ kd : Nat} (hkd : kd < 10) {x0 x1 x2 x3 : Int32} (K : ∀ x, d5 kd x2 x → E g 9 12 72 mL_ruled 441 [.ref 1, .int u, .int v, .ref 130, .ref 131, .ref 132, .ref 133, .int (nI many), .int (nI l), .int (nI at_), .int (nI kd), .int x0, .int x1, .int x2, .int x3, .int x, .null, .null, .null, .null] [] M Q) : E g 9 12 72 mL_ruled 393 [.ref 1, .int u, .int v, .ref 130, .ref 131, .ref 132, .ref 133, .int (nI many), .int (nI l), .int (nI at_), .int (nI kd), .int x0, .int x1, .int x2, .int x3, .null, .null, .null, .null, .null] [] M Q := by
  refine E_iload dL_ruled_393 rfl ?_
  refine E_iconst (v := nI 4) dL_ruled_395 (by decide) ?_
  refine E_icmp_ne_n (tgt := 417) dL_ruled_396 (by decide) (by omega) (by omega) (fun c_396 => ?_) (fun c_396 => ?_)
  · refine E_iload dL_ruled_417 rfl ?_
    refine E_bipush (v := nI 8) dL_ruled_419 (by decide) ?_
    refine E_icmp_ne_n (tgt := 438) dL_ruled_421 (by decide) (by omega) (by omega) (fun c_421 => ?_) (fun c_421 => ?_)
    · refine E_iconst (v := nI 0) dL_ruled_438 (by decide) ?_
      refine E_istore dL_ruled_439 (Nat.le_of_ble_eq_true rfl) (by decide) rfl ?_
      refine K _ ⟨fun q q2 => ?_, fun q => ?_, fun q => ?_⟩
      all_goals first
        | (exfalso; omega)
        | rfl
        | exact Or.inl rfl
        | exact ⟨_, lowN_lt _ (by decide), rfl⟩
        | (have := lowN_lt (u >>> (nI 16 &&& 31)) (n := 2) (by decide)
           rcases (show lowN (u >>> (nI 16 &&& 31)) 2 = 0 ∨ lowN (u >>> (nI 16 &&& 31)) 2 = 1 by omega) with y | y
           · rw [y]; exact Or.inl rfl
           · rw [y]; exact Or.inr ⟨rfl, c_403⟩)
    · refine E_iload_n dL_ruled_424 rfl ?_
      refine E_bipush (v := nI 16) dL_ruled_425 (by decide) ?_
      refine E_ishr dL_ruled_427 ?_
      refine E_bipush (v := nI 9) dL_ruled_428 (by decide) ?_
      refine E_callT2 (fr' := 1) (k1 := 0) (n1 := 0) (k2 := 12) (n2 := 72) dL_ruled_430 kO_L_low kL_L_229 (by exact Nat.le_of_ble_eq_true rfl) (by decide) (by exact Nat.le_of_ble_eq_true rfl) (Or.inl rfl) rfl ?_
      refine sp_L_low (by omega) (by omega) ?_
      refine gKv ?_
      refine E_iconst (v := nI 4) dL_ruled_433 (by decide) ?_
      refine E_isub dL_ruled_434 ?_
      refine E_goto (tgt := 439) dL_ruled_435 (by decide) ?_
      refine E_istore dL_ruled_439 (Nat.le_of_ble_eq_true rfl) (by decide) rfl ?_
      refine K _ ⟨fun q q2 => ?_, fun q => ?_, fun q => ?_⟩
      all_goals first
        | (exfalso; omega)
        | rfl
        | exact Or.inl rfl
        | exact ⟨_, lowN_lt _ (by decide), rfl⟩
        | (have := lowN_lt (u >>> (nI 16 &&& 31)) (n := 2) (by decide)
           rcases (show lowN (u >>> (nI 16 &&& 31)) 2 = 0 ∨ lowN (u >>> (nI 16 &&& 31)) 2 = 1 by omega) with y | y
           · rw [y]; exact Or.inl rfl
           · rw [y]; exact Or.inr ⟨rfl, c_403⟩)
  · refine E_iload dL_ruled_399 rfl ?_
    refine E_bipush (v := -100) dL_ruled_401 (by decide) ?_
    refine E_icmp_eq (tgt := 417) dL_ruled_403 (by decide) (fun c_403 => ?_) (fun c_403 => ?_)
    · refine E_iload dL_ruled_417 rfl ?_
      refine E_bipush (v := nI 8) dL_ruled_419 (by decide) ?_
      refine E_icmp_ne_n (tgt := 438) dL_ruled_421 (by decide) (by omega) (by omega) (fun c_421 => ?_) (fun c_421 => ?_)
      · refine E_iconst (v := nI 0) dL_ruled_438 (by decide) ?_
        refine E_istore dL_ruled_439 (Nat.le_of_ble_eq_true rfl) (by decide) rfl ?_
        refine K _ ⟨fun q q2 => ?_, fun q => ?_, fun q => ?_⟩
        all_goals first
          | (exfalso; omega)
          | rfl
          | exact Or.inl rfl
          | exact ⟨_, lowN_lt _ (by decide), rfl⟩
          | (have := lowN_lt (u >>> (nI 16 &&& 31)) (n := 2) (by decide)
             rcases (show lowN (u >>> (nI 16 &&& 31)) 2 = 0 ∨ lowN (u >>> (nI 16 &&& 31)) 2 = 1 by omega) with y | y
             · rw [y]; exact Or.inl rfl
             · rw [y]; exact Or.inr ⟨rfl, c_403⟩)
      · refine E_iload_n dL_ruled_424 rfl ?_
        refine E_bipush (v := nI 16) dL_ruled_425 (by decide) ?_
        refine E_ishr dL_ruled_427 ?_
        refine E_bipush (v := nI 9) dL_ruled_428 (by decide) ?_
        refine E_callT2 (fr' := 1) (k1 := 0) (n1 := 0) (k2 := 12) (n2 := 72) dL_ruled_430 kO_L_low kL_L_229 (by exact Nat.le_of_ble_eq_true rfl) (by decide) (by exact Nat.le_of_ble_eq_true rfl) (Or.inl rfl) rfl ?_
        refine sp_L_low (by omega) (by omega) ?_
        refine gKv ?_
        refine E_iconst (v := nI 4) dL_ruled_433 (by decide) ?_
        refine E_isub dL_ruled_434 ?_
        refine E_goto (tgt := 439) dL_ruled_435 (by decide) ?_
        refine E_istore dL_ruled_439 (Nat.le_of_ble_eq_true rfl) (by decide) rfl ?_
        refine K _ ⟨fun q q2 => ?_, fun q => ?_, fun q => ?_⟩
        all_goals first
          | (exfalso; omega)
          | rfl
          | exact Or.inl rfl
          | exact ⟨_, lowN_lt _ (by decide), rfl⟩
          | (have := lowN_lt (u >>> (nI 16 &&& 31)) (n := 2) (by decide)
             rcases (show lowN (u >>> (nI 16 &&& 31)) 2 = 0 ∨ lowN (u >>> (nI 16 &&& 31)) 2 = 1 by omega) with y | y
             · rw [y]; exact Or.inl rfl
             · rw [y]; exact Or.inr ⟨rfl, c_403⟩)
    · refine E_iload_n dL_ruled_406 rfl ?_
      refine E_bipush (v := nI 16) dL_ruled_407 (by decide) ?_
      refine E_ishr dL_ruled_409 ?_
      refine E_iconst (v := nI 2) dL_ruled_410 (by decide) ?_
      refine E_callT2 (fr' := 1) (k1 := 0) (n1 := 0) (k2 := 12) (n2 := 72) dL_ruled_411 kO_L_low kL_L_229 (by exact Nat.le_of_ble_eq_true rfl) (by decide) (by exact Nat.le_of_ble_eq_true rfl) (Or.inl rfl) rfl ?_
      refine sp_L_low (by omega) (by omega) ?_
      refine gKv ?_
      refine E_goto (tgt := 439) dL_ruled_414 (by decide) ?_
      refine E_istore dL_ruled_439 (Nat.le_of_ble_eq_true rfl) (by decide) rfl ?_
      refine K _ ⟨fun q q2 => ?_, fun q => ?_, fun q => ?_⟩
      all_goals first
        | (exfalso; omega)
        | rfl
        | exact Or.inl rfl
        | exact ⟨_, lowN_lt _ (by decide), rfl⟩
        | (have := lowN_lt (u >>> (nI 16 &&& 31)) (n := 2) (by decide)
           rcases (show lowN (u >>> (nI 16 &&& 31)) 2 = 0 ∨ lowN (u >>> (nI 16 &&& 31)) 2 = 1 by omega) with y | y
           · rw [y]; exact Or.inl rfl
           · rw [y]; exact Or.inr ⟨rfl, c_403⟩)
set_option maxRecDepth 100000 in
set_option maxHeartbeats 4000000 in
theorem s6_L_ruled {g : gG} {M : gM} {Q : Option Value ⊕ String → gM → Prop} {u v : Int32} {many l at_ kd : Nat} (hkd : kd < 10) {x0 x1 x2 x3 x4 : Int32} (K : ∀ x, d6 kd x → E g 9 12 72 mL_ruled 462 [.ref 1, .int u, .int v, .ref 130, .ref 131, .ref 132, .ref 133, .int (nI many), .int (nI l), .int (nI at_), .int (nI kd), .int x0, .int x1, .int x2, .int x3, .int x4, .int x, .null, .null, .null] [] M Q) : E g 9 12 72 mL_ruled 441 [.ref 1, .int u, .int v, .ref 130, .ref 131, .ref 132, .ref 133, .int (nI many), .int (nI l), .int (nI at_), .int (nI kd), .int x0, .int x1, .int x2, .int x3, .int x4, .null, .null, .null, .null] [] M Q := by
  refine E_iload dL_ruled_441 rfl ?_
  refine E_iconst (v := nI 4) dL_ruled_443 (by decide) ?_
  refine E_icmp_ne_n (tgt := 459) dL_ruled_444 (by decide) (by omega) (by omega) (fun c_444 => ?_) (fun c_444 => ?_)
  · refine E_iconst (v := nI 0) dL_ruled_459 (by decide) ?_
    refine E_istore dL_ruled_460 (Nat.le_of_ble_eq_true rfl) (by decide) rfl ?_
    refine K _ ⟨fun q => ?_, fun q => ?_⟩
    all_goals first
      | (exfalso; omega)
      | rfl
      | exact ⟨_, lowN_lt _ (by decide), rfl⟩
  · refine E_iload_n dL_ruled_447 rfl ?_
    refine E_bipush (v := nI 20) dL_ruled_448 (by decide) ?_
    refine E_ishr dL_ruled_450 ?_
    refine E_bipush (v := nI 6) dL_ruled_451 (by decide) ?_
    refine E_callT2 (fr' := 1) (k1 := 0) (n1 := 0) (k2 := 12) (n2 := 72) dL_ruled_453 kO_L_low kL_L_229 (by exact Nat.le_of_ble_eq_true rfl) (by decide) (by exact Nat.le_of_ble_eq_true rfl) (Or.inl rfl) rfl ?_
    refine sp_L_low (by omega) (by omega) ?_
    refine gKv ?_
    refine E_goto (tgt := 460) dL_ruled_456 (by decide) ?_
    refine E_istore dL_ruled_460 (Nat.le_of_ble_eq_true rfl) (by decide) rfl ?_
    refine K _ ⟨fun q => ?_, fun q => ?_⟩
    all_goals first
      | (exfalso; omega)
      | rfl
      | exact ⟨_, lowN_lt _ (by decide), rfl⟩
set_option maxRecDepth 100000 in
set_option maxHeartbeats 4000000 in
theorem s8_L_ruled {g : gG} {M : gM} {Q : Option Value ⊕ String → gM → Prop} (hst : (gl1 g).stackTraces = false) {c : Cf} {P π : Nat → Nat} (hs : lwS c P π M) {u v : Int32} {l : Nat} {x0 x1 x2 x3 x4 x5 : Int32} (hl : l < cN c 129 (fc0 c)) (hd : drZ (cN c 130 (12 * fc0 c + l)) x0 x1 x2 x3 x4 x5) (h4 : cN c 135 (12 * fc0 c + l) < 4) (K : ∀ c' π' M', lwS c' P π' M' → (∀ j, cN c' 140 j = cN c 140 j) → Q (.inl (some (.int (nI 1)))) M') : E g 9 6 36 mL_ruled 636 [.ref 1, .int u, .int v, .ref 130, .ref 131, .ref 132, .ref 133, .int (nI (cN c 129 (fc0 c))), .int (nI l), .int (nI (8 * fc0 c + l)), .int (nI (cN c 130 (12 * fc0 c + l))), .int x0, .int x1, .int x2, .int x3, .int x4, .int x5, .int (nI (cN c 135 (12 * fc0 c + l))), .null, .null] [] M Q := by
  have hS := hs.1
  have h := hs.2.1
  have hI := hs.2.2.1
  have hW := hs.2.2.2.1
  have h10 := hs.2.2.2.2
  have hL := h.lay
  have hf : fc0 c < 2 := h.wf.1.1
  have hct := h.ct hf
  have hr4 := h.r4 (12 * fc0 c + l)
  have hmb := mEn_b h.wf (12 * fc0 c + l)
  have hlc : l < cnt0 c := hl
  have hnb : ¬ iBel (nI (cN c 129 (fc0 c))) (cnt0 c) := fun q => by
    obtain ⟨j, h1, h2⟩ := (iBel_iff (c := cnt0 c) (by show cN c 129 (fc0 c) < 2 ^ 30; omega)).mp q
    have h1 : j < cN c 129 (fc0 c) := h1
    have := (nI_eq (by omega) (by omega)).mp h2
    omega
  have hz2 := zS_rule h hl h4 hd
  have hS2 : kS c P π (sI (sL M 130 (4 * (8 * fc0 c + l) + cN c 135 (12 * fc0 c + l)) (lN (p6 x0 x1 x2 x3 x4 x5))) 129 (8 * fc0 c + l) (nI (mEn c (12 * fc0 c + l) + 8192))) := hS.law hS.C (Nat.le_refl _) (fun _ _ => rfl) (fun a j q q2 => mI_ne (by omega)) (fun _ _ _ => rfl)
  have h102 : mI (sI (sL M 130 (4 * (8 * fc0 c + l) + cN c 135 (12 * fc0 c + l)) (lN (p6 x0 x1 x2 x3 x4 x5))) 129 (8 * fc0 c + l) (nI (mEn c (12 * fc0 c + l) + 8192))) 132 10 = nI 0 := (mI_ne (by decide)).trans h10
  have hI2 := wfI_rule hI h.wf (l := (12 * fc0 c + l)) rfl (by omega) hd
  have hW2 := wfW_rule hW h.wf (l := (12 * fc0 c + l)) rfl (by omega) hd
  have e128 : cN (nxR c (12 * fc0 c + l) (cN c 135 (12 * fc0 c + l)) x0 x1 x2 x3 x4 x5) 128 1 = cN c 128 1 := by rw [nxR_N, if_neg (by omega)]
  have e129 : cN (nxR c (12 * fc0 c + l) (cN c 135 (12 * fc0 c + l)) x0 x1 x2 x3 x4 x5) 129 (cN c 128 1) = cN c 129 (cN c 128 1) := by rw [nxR_N, if_neg (by omega)]
  have ecnt : cnt0 (nxR c (12 * fc0 c + l) (cN c 135 (12 * fc0 c + l)) x0 x1 x2 x3 x4 x5) = cN c 129 (fc0 c) := by show cN (nxR c (12 * fc0 c + l) (cN c 135 (12 * fc0 c + l)) x0 x1 x2 x3 x4 x5) 129 (cN (nxR c (12 * fc0 c + l) (cN c 135 (12 * fc0 c + l)) x0 x1 x2 x3 x4 x5) 128 1) = _; rw [e128, e129]
  have e140 : ∀ j, cN (nxR c (12 * fc0 c + l) (cN c 135 (12 * fc0 c + l)) x0 x1 x2 x3 x4 x5) 140 j = cN c 140 j := fun j => by rw [nxR_N, if_neg (by omega)]
  have hnb2 : ¬ iBel (nI (cN c 129 (fc0 c))) (cnt0 (nxR c (12 * fc0 c + l) (cN c 135 (12 * fc0 c + l)) x0 x1 x2 x3 x4 x5)) := by rw [ecnt]; exact hnb
  have hl2 : l < cN (nxR c (12 * fc0 c + l) (cN c 135 (12 * fc0 c + l)) x0 x1 x2 x3 x4 x5) 129 (fc0 (nxR c (12 * fc0 c + l) (cN c 135 (12 * fc0 c + l)) x0 x1 x2 x3 x4 x5)) := by
    have : cN (nxR c (12 * fc0 c + l) (cN c 135 (12 * fc0 c + l)) x0 x1 x2 x3 x4 x5) 129 (fc0 (nxR c (12 * fc0 c + l) (cN c 135 (12 * fc0 c + l)) x0 x1 x2 x3 x4 x5)) = cN c 129 (fc0 c) := ecnt
    rw [this]; exact hl
  have key : ∀ MM, MM = (sI (sL M 130 (4 * (8 * fc0 c + l) + cN c 135 (12 * fc0 c + l)) (lN (p6 x0 x1 x2 x3 x4 x5))) 129 (8 * fc0 c + l) (nI (mEn c (12 * fc0 c + l) + 8192))) → E g 9 6 36 mL_ruled 728 [.ref 1, .int u, .int v, .ref 130, .ref 131, .ref 132, .ref 133, .int (nI (cN c 129 (fc0 c))), .int (nI l), .int (nI (8 * fc0 c + l)), .int (nI (cN c 130 (12 * fc0 c + l))), .int x0, .int x1, .int x2, .int x3, .int x4, .int x5, .int (nI (cN c 135 (12 * fc0 c + l))), .long (lN (p6 x0 x1 x2 x3 x4 x5)), .null] [] MM Q := by
    intro MM eM
    rw [← eM] at hz2 hS2 h102
    have hL := hz2.lay
    refine E_aload_n dL_ruled_728 rfl ?_
    refine E_iload dL_ruled_729 rfl ?_
    refine E_iload dL_ruled_731 rfl ?_
    refine E_iload dL_ruled_733 rfl ?_
    refine E_iload dL_ruled_735 rfl ?_
    refine E_iload dL_ruled_737 rfl ?_
    refine E_iload dL_ruled_739 rfl ?_
    refine E_iload dL_ruled_741 rfl ?_
    refine E_callT8 (fr' := 8) (k1 := 1) (n1 := 6) (k2 := 5) (n2 := 30) dL_ruled_743 kO_L_rule kL_L_279 (by exact Nat.le_of_ble_eq_true rfl) (by decide) (by exact Nat.le_of_ble_eq_true rfl) (Or.inr (gW_at 1228 (by decide +kernel) (by decide +kernel))) rfl ?_
    refine w_ruleG hst hS2 hlc hd.1 (by show cN c 135 (12 * fc0 c + l) < 8; omega) (fun M3 hS3 hkd => ?_)
    have hL := hS3.1.lay
    have hz3 := hz2.kd hkd hL
    have h103 := ((hkd.2.2 132 10 (by decide) (by decide)).1).trans h102
    rw [show cN c 135 (at0 c l) = cN c 135 (12 * fc0 c + l) from rfl]
    refine gKv ?_
    refine E_iload dL_ruled_746 rfl ?_
    refine E_iconst (v := nI 1) dL_ruled_748 (by decide) ?_
    refine E_iadd_n dL_ruled_749 ?_
    refine E_icmp_ne_n (tgt := 790) dL_ruled_750 (by decide) (by omega) (by omega) (fun c_750 => ?_) (fun c_750 => ?_)
    · exfalso
      first
        | exact c_750 rfl
        | exact c_771 rfl
    · refine E_aload_n dL_ruled_753 rfl ?_
      refine E_iload dL_ruled_754 rfl ?_
      refine E_callT2 (fr' := 8) (k1 := 1) (n1 := 6) (k2 := 4) (n2 := 24) dL_ruled_756 kO_L_size kL_L_282 (by exact Nat.le_of_ble_eq_true rfl) (by decide) (by exact Nat.le_of_ble_eq_true rfl) (Or.inr (gW_at 1264 (by decide +kernel) (by decide +kernel))) rfl ?_
      refine w_size hst hS3 (fun j hj e M4 hS4 hkq => ?_) (fun z => absurd ((iBel_iff (by rw [ecnt]; omega)).mpr ⟨l, by rw [ecnt]; exact hl, rfl⟩) z)
      have hlj : l = j := (nI_eq (by omega) (by rw [ecnt] at hj; omega)).mp e
      subst hlj
      have hL3 := hL
      have hL := hS4.1.lay
      have hz4 := hz3.kd (hkq.kd hL3) hL
      have h104 := (((hkq.kd hL3).2.2 132 10 (by decide) (by decide)).1).trans h103
      refine gKv ?_
      refine E_aload_n dL_ruled_759 rfl ?_
      refine E_aload dL_ruled_760 rfl ?_
      refine E_aload dL_ruled_762 rfl ?_
      refine E_aload dL_ruled_764 rfl ?_
      refine E_iload dL_ruled_766 rfl ?_
      refine E_callT5 (fr' := 3) (k1 := 0) (n1 := 0) (k2 := 4) (n2 := 24) dL_ruled_768 kO_L_sized kL_L_294 (by exact Nat.le_of_ble_eq_true rfl) (by decide) (by exact Nat.le_of_ble_eq_true rfl) (Or.inl rfl) rfl ?_
      refine sp_L_sized hz4 hl2 hI2 ?_
      refine gKv ?_
      refine E_icmp_ne_r (tgt := 790) dL_ruled_771 (by decide) (fun c_771 => ?_) (fun c_771 => ?_)
      · exfalso
        first
          | exact c_750 rfl
          | exact c_771 rfl
      · refine E_aload_n dL_ruled_774 rfl ?_
        refine E_iload dL_ruled_775 rfl ?_
        refine E_callT2 (fr' := 8) (k1 := 1) (n1 := 6) (k2 := 3) (n2 := 18) dL_ruled_777 kO_L_size kL_L_282 (by exact Nat.le_of_ble_eq_true rfl) (by decide) (by exact Nat.le_of_ble_eq_true rfl) (Or.inr (gW_at 1264 (by decide +kernel) (by decide +kernel))) rfl ?_
        refine w_size hst hS4 (fun j hj e _ _ _ => absurd ((iBel_iff (by rw [ecnt]; omega)).mpr ⟨j, hj, e⟩) hnb2) (fun z => ?_)
        refine gKv ?_
        refine E_sipush (v := -7100) dL_ruled_780 (by decide) ?_
        refine E_icmp_ne_r (tgt := 790) dL_ruled_783 (by decide) (fun c0 => absurd c0 (by decide)) (fun _ => ?_)
        refine E_iconst (v := nI 1) dL_ruled_786 (by decide) ?_
        refine E_goto (tgt := 791) dL_ruled_787 (by decide) ?_
        refine E_iret dL_ruled_791 (Or.inr ⟨rfl, by decide⟩) ?_
        exact K _ _ _ ⟨hS4, hz4, hI2, hW2, h104⟩ e140
  refine E_lconst (v := 0) dL_ruled_636 (by decide) ?_
  refine E_lstore dL_ruled_637 (Nat.le_of_ble_eq_true rfl) (by decide) rfl ?_
  refine E_lload dL_ruled_639 rfl ?_
  refine E_iload dL_ruled_641 rfl ?_
  refine E_i2l dL_ruled_643 ?_
  refine E_ldc2 (v := lN 100) dL_ruled_644 (gW_at 1293 (by decide +kernel) (by decide +kernel)) ?_
  refine E_ladd dL_ruled_647 ?_
  refine E_iload dL_ruled_648 rfl ?_
  refine E_i2l dL_ruled_650 ?_
  refine E_ldc2 (v := lN 100) dL_ruled_651 (gW_at 1293 (by decide +kernel) (by decide +kernel)) ?_
  refine E_ladd dL_ruled_654 ?_
  refine E_bipush (v := nI 10) dL_ruled_655 (by decide) ?_
  refine E_lshl dL_ruled_657 ?_
  refine E_lor dL_ruled_658 ?_
  refine E_iload dL_ruled_659 rfl ?_
  refine E_i2l dL_ruled_661 ?_
  refine E_ldc2 (v := lN 100) dL_ruled_662 (gW_at 1293 (by decide +kernel) (by decide +kernel)) ?_
  refine E_ladd dL_ruled_665 ?_
  refine E_bipush (v := nI 20) dL_ruled_666 (by decide) ?_
  refine E_lshl dL_ruled_668 ?_
  refine E_lor dL_ruled_669 ?_
  refine E_iload dL_ruled_670 rfl ?_
  refine E_i2l dL_ruled_672 ?_
  refine E_ldc2 (v := lN 100) dL_ruled_673 (gW_at 1293 (by decide +kernel) (by decide +kernel)) ?_
  refine E_ladd dL_ruled_676 ?_
  refine E_bipush (v := nI 30) dL_ruled_677 (by decide) ?_
  refine E_lshl dL_ruled_679 ?_
  refine E_lor dL_ruled_680 ?_
  refine E_iload dL_ruled_681 rfl ?_
  refine E_i2l dL_ruled_683 ?_
  refine E_ldc2 (v := lN 100) dL_ruled_684 (gW_at 1293 (by decide +kernel) (by decide +kernel)) ?_
  refine E_ladd dL_ruled_687 ?_
  refine E_bipush (v := nI 40) dL_ruled_688 (by decide) ?_
  refine E_lshl dL_ruled_690 ?_
  refine E_lor dL_ruled_691 ?_
  refine E_iload dL_ruled_692 rfl ?_
  refine E_i2l dL_ruled_694 ?_
  refine E_ldc2 (v := lN 100) dL_ruled_695 (gW_at 1293 (by decide +kernel) (by decide +kernel)) ?_
  refine E_ladd dL_ruled_698 ?_
  refine E_bipush (v := nI 50) dL_ruled_699 (by decide) ?_
  refine E_lshl dL_ruled_701 ?_
  refine E_lor dL_ruled_702 ?_
  refine E_lor dL_ruled_703 ?_
  rw [p6_L hd.2.1 hd.2.2.1 hd.2.2.2.1 hd.2.2.2.2.1 hd.2.2.2.2.2.1 hd.2.2.2.2.2.2.1]
  refine E_lstore dL_ruled_704 (Nat.le_of_ble_eq_true rfl) (by decide) rfl ?_
  refine E_aload dL_ruled_706 rfl ?_
  refine E_iconst (v := nI 4) dL_ruled_708 (by decide) ?_
  refine E_iload dL_ruled_709 rfl ?_
  refine E_imul_n dL_ruled_711 ?_
  refine E_iload dL_ruled_712 rfl ?_
  refine E_iadd_n dL_ruled_714 ?_
  refine E_lload dL_ruled_715 rfl ?_
  refine E_last dL_ruled_717 (l_130 hL) (k_130 hL) rfl (by omega) (by decide) ?_
  refine E_aload_n dL_ruled_718 rfl ?_
  refine E_iload dL_ruled_719 rfl ?_
  refine E_dup2 dL_ruled_721 rfl rfl ?_
  refine E_ialdL (v := nI (mEn c (12 * fc0 c + l))) dL_ruled_722 (l_129 hL) (k_129 hL) rfl (by omega) (by decide) (h.me hf hl) ?_
  refine E_sipush (v := nI 8192) dL_ruled_723 (by decide) ?_
  refine E_iadd_n dL_ruled_726 ?_
  refine E_iast dL_ruled_727 (l_129 hL) (k_129 hL) rfl (by omega) (by decide) ?_
  exact key _ rfl
set_option maxRecDepth 100000 in
set_option maxHeartbeats 4000000 in
theorem s7_L_ruled {g : gG} {M : gM} {Q : Option Value ⊕ String → gM → Prop} (hst : (gl1 g).stackTraces = false) {c : Cf} {P π : Nat → Nat} (hs : lwS c P π M) {u v : Int32} {l : Nat} {x0 x1 x2 x3 x4 x5 : Int32} (hl : l < cN c 129 (fc0 c)) (hd : drZ (cN c 130 (12 * fc0 c + l)) x0 x1 x2 x3 x4 x5) (K : ∀ c' π' M', lwS c' P π' M' → (∀ j, cN c' 140 j = cN c 140 j) → Q (.inl (some (.int (nI 1)))) M') : E g 9 12 72 mL_ruled 462 [.ref 1, .int u, .int v, .ref 130, .ref 131, .ref 132, .ref 133, .int (nI (cN c 129 (fc0 c))), .int (nI l), .int (nI (8 * fc0 c + l)), .int (nI (cN c 130 (12 * fc0 c + l))), .int x0, .int x1, .int x2, .int x3, .int x4, .int x5, .null, .null, .null] [] M Q := by
  have hS := hs.1
  have h := hs.2.1
  have hI := hs.2.2.1
  have hW := hs.2.2.2.1
  have h10 := hs.2.2.2.2
  have hL := h.lay
  have hf : fc0 c < 2 := h.wf.1.1
  have hct := h.ct hf
  have hr4 := h.r4 (12 * fc0 c + l)
  have hmb := mEn_b h.wf (12 * fc0 c + l)
  have hlc : l < cnt0 c := hl
  have hnb : ¬ iBel (nI (cN c 129 (fc0 c))) (cnt0 c) := fun q => by
    obtain ⟨j, h1, h2⟩ := (iBel_iff (c := cnt0 c) (by show cN c 129 (fc0 c) < 2 ^ 30; omega)).mp q
    have h1 : j < cN c 129 (fc0 c) := h1
    have := (nI_eq (by omega) (by omega)).mp h2
    omega
  refine E_aload_n dL_ruled_462 rfl ?_
  refine E_iload dL_ruled_463 rfl ?_
  refine E_iconst (v := nI 0) dL_ruled_465 (by decide) ?_
  refine E_iconst (v := nI 0) dL_ruled_466 (by decide) ?_
  refine E_iconst (v := nI 0) dL_ruled_467 (by decide) ?_
  refine E_iconst (v := nI 0) dL_ruled_468 (by decide) ?_
  refine E_iconst (v := nI 0) dL_ruled_469 (by decide) ?_
  refine E_iconst (v := nI 0) dL_ruled_470 (by decide) ?_
  refine E_callT8 (fr' := 8) (k1 := 1) (n1 := 6) (k2 := 11) (n2 := 66) dL_ruled_471 kO_L_rule kL_L_279 (by exact Nat.le_of_ble_eq_true rfl) (by decide) (by exact Nat.le_of_ble_eq_true rfl) (Or.inr (gW_at 1228 (by decide +kernel) (by decide +kernel))) rfl ?_
  refine w_ruleI hst hS hnb ?_
  refine gKv ?_
  refine E_sipush (v := -7100) dL_ruled_474 (by decide) ?_
  refine E_icmp_ne_r (tgt := 598) dL_ruled_477 (by decide) (fun c0 => absurd c0 (by decide)) (fun _ => ?_)
  refine E_aload_n dL_ruled_480 rfl ?_
  refine E_iload dL_ruled_481 rfl ?_
  refine E_sipush (v := nI 256) dL_ruled_483 (by decide) ?_
  refine E_iconst (v := nI 0) dL_ruled_486 (by decide) ?_
  refine E_iconst (v := nI 0) dL_ruled_487 (by decide) ?_
  refine E_iconst (v := nI 0) dL_ruled_488 (by decide) ?_
  refine E_iconst (v := nI 0) dL_ruled_489 (by decide) ?_
  refine E_iconst (v := nI 0) dL_ruled_490 (by decide) ?_
  refine E_callT8 (fr' := 8) (k1 := 1) (n1 := 6) (k2 := 10) (n2 := 60) dL_ruled_491 kO_L_rule kL_L_279 (by exact Nat.le_of_ble_eq_true rfl) (by decide) (by exact Nat.le_of_ble_eq_true rfl) (Or.inr (gW_at 1228 (by decide +kernel) (by decide +kernel))) rfl ?_
  refine w_ruleB hst hS hlc (fun z => absurd (iRl_0 hmb.1 z).1 (by decide)) ?_
  refine gKv ?_
  refine E_sipush (v := -7200) dL_ruled_494 (by decide) ?_
  refine E_icmp_ne_r (tgt := 598) dL_ruled_497 (by decide) (fun c0 => absurd c0 (by decide)) (fun _ => ?_)
  refine E_aload_n dL_ruled_500 rfl ?_
  refine E_iload dL_ruled_501 rfl ?_
  refine E_sipush (v := nI 306) dL_ruled_503 (by decide) ?_
  refine E_iload dL_ruled_506 rfl ?_
  refine E_iload dL_ruled_508 rfl ?_
  refine E_iload dL_ruled_510 rfl ?_
  refine E_iload dL_ruled_512 rfl ?_
  refine E_iload dL_ruled_514 rfl ?_
  refine E_callT8 (fr' := 8) (k1 := 1) (n1 := 6) (k2 := 9) (n2 := 54) dL_ruled_516 kO_L_rule kL_L_279 (by exact Nat.le_of_ble_eq_true rfl) (by decide) (by exact Nat.le_of_ble_eq_true rfl) (Or.inr (gW_at 1228 (by decide +kernel) (by decide +kernel))) rfl ?_
  refine w_ruleB hst hS hlc (fun z => absurd (iRl_0 hmb.1 z).1 (by decide)) ?_
  refine gKv ?_
  refine E_sipush (v := -7200) dL_ruled_519 (by decide) ?_
  refine E_icmp_ne_r (tgt := 598) dL_ruled_522 (by decide) (fun c0 => absurd c0 (by decide)) (fun _ => ?_)
  refine E_aload_n dL_ruled_525 rfl ?_
  refine E_iload dL_ruled_526 rfl ?_
  refine E_iload dL_ruled_528 rfl ?_
  refine E_iload dL_ruled_530 rfl ?_
  refine E_iload dL_ruled_532 rfl ?_
  refine E_iload dL_ruled_534 rfl ?_
  refine E_iload dL_ruled_536 rfl ?_
  refine E_bipush (v := nI 12) dL_ruled_538 (by decide) ?_
  refine E_callT8 (fr' := 8) (k1 := 1) (n1 := 6) (k2 := 8) (n2 := 48) dL_ruled_540 kO_L_rule kL_L_279 (by exact Nat.le_of_ble_eq_true rfl) (by decide) (by exact Nat.le_of_ble_eq_true rfl) (Or.inr (gW_at 1228 (by decide +kernel) (by decide +kernel))) rfl ?_
  refine w_ruleB hst hS hlc (fun z => (iRl_0 hmb.1 z).2.2.2 rfl) ?_
  refine gKv ?_
  refine E_sipush (v := -7200) dL_ruled_543 (by decide) ?_
  refine E_icmp_ne_r (tgt := 598) dL_ruled_546 (by decide) (fun c0 => absurd c0 (by decide)) (fun _ => ?_)
  refine E_aload_n dL_ruled_549 rfl ?_
  refine E_iload dL_ruled_550 rfl ?_
  refine E_iload dL_ruled_552 rfl ?_
  refine E_sipush (v := nI 999) dL_ruled_554 (by decide) ?_
  refine E_iload dL_ruled_557 rfl ?_
  refine E_iload dL_ruled_559 rfl ?_
  refine E_iload dL_ruled_561 rfl ?_
  refine E_iload dL_ruled_563 rfl ?_
  refine E_callT8 (fr' := 8) (k1 := 1) (n1 := 6) (k2 := 7) (n2 := 42) dL_ruled_565 kO_L_rule kL_L_279 (by exact Nat.le_of_ble_eq_true rfl) (by decide) (by exact Nat.le_of_ble_eq_true rfl) (Or.inr (gW_at 1228 (by decide +kernel) (by decide +kernel))) rfl ?_
  refine w_ruleB hst hS hlc (fun z => (iRl_0 hmb.1 z).2.1 rfl) ?_
  refine gKv ?_
  refine E_sipush (v := -7200) dL_ruled_568 (by decide) ?_
  refine E_icmp_ne_r (tgt := 598) dL_ruled_571 (by decide) (fun c0 => absurd c0 (by decide)) (fun _ => ?_)
  refine E_aload_n dL_ruled_574 rfl ?_
  refine E_iload dL_ruled_575 rfl ?_
  refine E_iload dL_ruled_577 rfl ?_
  refine E_iload dL_ruled_579 rfl ?_
  refine E_iload dL_ruled_581 rfl ?_
  refine E_iload dL_ruled_583 rfl ?_
  refine E_bipush (v := nI 51) dL_ruled_585 (by decide) ?_
  refine E_iload dL_ruled_587 rfl ?_
  refine E_callT8 (fr' := 8) (k1 := 1) (n1 := 6) (k2 := 6) (n2 := 36) dL_ruled_589 kO_L_rule kL_L_279 (by exact Nat.le_of_ble_eq_true rfl) (by decide) (by exact Nat.le_of_ble_eq_true rfl) (Or.inr (gW_at 1228 (by decide +kernel) (by decide +kernel))) rfl ?_
  refine w_ruleB hst hS hlc (fun z => (iRl_0 hmb.1 z).2.2.1 rfl) ?_
  refine gKv ?_
  refine E_sipush (v := -7200) dL_ruled_592 (by decide) ?_
  refine E_icmp_eq (tgt := 600) dL_ruled_595 (by decide) (fun _ => ?_) (fun c0 => absurd (by decide) c0)
  refine E_aload_n dL_ruled_600 rfl ?_
  refine E_iload dL_ruled_601 rfl ?_
  refine E_ialdL (v := nI (mEn _ _)) dL_ruled_603 (l_129 hL) (k_129 hL) rfl (by omega) (by decide) (h.me hf hl) ?_
  refine E_bipush (v := nI 13) dL_ruled_604 (by decide) ?_
  refine E_ishr dL_ruled_606 ?_
  rw [mE_13 h.wf]
  refine E_istore dL_ruled_607 (Nat.le_of_ble_eq_true rfl) (by decide) rfl ?_
  refine E_iload dL_ruled_609 rfl ?_
  refine E_iconst (v := nI 4) dL_ruled_611 (by decide) ?_
  refine E_icmp_ne_n (tgt := 636) dL_ruled_612 (by decide) (by omega) (by omega) (fun c_612 => ?_) (fun c_612 => ?_)
  · exact E_room (Nat.le_refl _) (by decide) (by decide) (s8_L_ruled hst hs hl hd (by omega) K)
  · refine E_aload_n dL_ruled_615 rfl ?_
    refine E_aload dL_ruled_616 rfl ?_
    refine E_iconst (v := nI 0) dL_ruled_618 (by decide) ?_
    refine E_ialdL (v := nI (fc0 c)) dL_ruled_619 (l_132 hL) (k_132 hL) rfl (by omega) (by decide) h.b0 ?_
    refine E_callV1 (fr' := 7) (k1 := 1) (n1 := 6) (k2 := 5) (n2 := 30) dL_ruled_620 kO_X11_useFace kL_L_8 (l_0 hL) (k_0 hL) ⟨by decide, rfl⟩ rfl (by decide) (by decide) (by exact Nat.le_of_ble_eq_true rfl) rfl ?_
    refine sp_X11_useFace hst hS (fun z => absurd ((iIn_n (by omega) (by decide) (by decide)).mpr ⟨Nat.zero_le _, by omega⟩) z) (fun z M1 hS1 hkd => ?_)
    have hS := hS1
    rw [uN_same c hf] at hS
    have hL := hS.1.lay
    have h := h.kd hkd hL
    have h10 := ((hkd.2.2 132 10 (by decide) (by decide)).1).trans h10
    refine gKv ?_
    refine E_aload dL_ruled_623 rfl ?_
    refine E_iconst (v := nI 0) dL_ruled_625 (by decide) ?_
    refine E_ialdL (v := nI (fc0 c)) dL_ruled_626 (l_132 hL) (k_132 hL) rfl (by omega) (by decide) h.b0 ?_
    refine E_icmp_ne_n (tgt := 634) dL_ruled_627 (by decide) (by omega) (by omega) (fun c_627 => ?_) (fun c_627 => ?_)
    · exact absurd rfl c_627
    · refine E_iconst (v := nI 1) dL_ruled_630 (by decide) ?_
      refine E_goto (tgt := 635) dL_ruled_631 (by decide) ?_
      refine E_iret dL_ruled_635 (Or.inr ⟨rfl, by decide⟩) ?_
      exact K _ _ _ ⟨hS, h, hI, hW, h10⟩ (fun _ => rfl)
set_option maxRecDepth 100000 in
set_option maxHeartbeats 4000000 in
theorem sp_L_ruled {g : gG} {M : gM} {Q : Option Value ⊕ String → gM → Prop} (hst : (gl1 g).stackTraces = false) {c : Cf} {P π : Nat → Nat} (hs : lwS c P π M) {u v : Int32} (K : ∀ c' π' M', lwS c' P π' M' → (∀ j, cN c' 140 j = cN c 140 j) → Q (.inl (some (.int (nI 1)))) M') : E g 9 12 72 mL_ruled 0 [.ref 1, .int u, .int v, .ref 130, .ref 131, .ref 132, .ref 133, .null, .null, .null, .null, .null, .null, .null, .null, .null, .null, .null, .null, .null] [] M Q := by
  have hS := hs.1
  have h := hs.2.1
  have hI := hs.2.2.1
  have hW := hs.2.2.2.1
  have h10 := hs.2.2.2.2
  have hL := h.lay
  have hf : fc0 c < 2 := h.wf.1.1
  have hct := h.ct hf
  have hcn : cN c 129 (fc0 c) = 0 → ¬ iBel (nI 0) (cnt0 c) := fun q z => by
    obtain ⟨j, h1, h2⟩ := (iBel_iff (c := cnt0 c) (by show cN c 129 (fc0 c) < 2 ^ 30; omega)).mp z
    have h1 : j < cN c 129 (fc0 c) := h1
    omega
  refine E_aload dL_ruled_0 rfl ?_
  refine E_iconst (v := nI 3) dL_ruled_2 (by decide) ?_
  refine E_aload dL_ruled_3 rfl ?_
  refine E_iconst (v := nI 0) dL_ruled_5 (by decide) ?_
  refine E_ialdL (v := nI (fc0 c)) dL_ruled_6 (l_132 hL) (k_132 hL) rfl (by omega) (by decide) h.b0 ?_
  refine E_iadd_n dL_ruled_7 ?_
  refine E_ialdL (v := nI (cN c 129 (fc0 c))) dL_ruled_8 (l_132 hL) (k_132 hL) rfl (by omega) (by decide) (h.b3 hf) ?_
  refine E_istore dL_ruled_9 (Nat.le_of_ble_eq_true rfl) (by decide) rfl ?_
  refine E_iload dL_ruled_11 rfl ?_
  refine E_if_ne_n (tgt := 50) dL_ruled_13 (by decide) (by omega) (fun c_13 => ?_) (fun c_13 => ?_)
  · refine E_iload_n dL_ruled_50 rfl ?_
    refine E_iload dL_ruled_51 rfl ?_
    refine E_callT2 (fr' := 1) (k1 := 0) (n1 := 0) (k2 := 12) (n2 := 72) dL_ruled_53 kO_L_low kL_L_229 (by exact Nat.le_of_ble_eq_true rfl) (by decide) (by exact Nat.le_of_ble_eq_true rfl) (Or.inl rfl) rfl ?_
    refine sp_L_low (by omega) (by omega) ?_
    have hl := lowN_lt u (n := cN c 129 (fc0 c)) (by omega)
    generalize lowN u (cN c 129 (fc0 c)) = l at hl ⊢
    have hmb := mEn_b h.wf (12 * fc0 c + l)
    refine gKv ?_
    refine E_istore dL_ruled_56 (Nat.le_of_ble_eq_true rfl) (by decide) rfl ?_
    refine E_bipush (v := nI 8) dL_ruled_58 (by decide) ?_
    refine E_aload dL_ruled_60 rfl ?_
    refine E_iconst (v := nI 0) dL_ruled_62 (by decide) ?_
    refine E_ialdL (v := nI (fc0 c)) dL_ruled_63 (l_132 hL) (k_132 hL) rfl (by omega) (by decide) h.b0 ?_
    refine E_imul_n dL_ruled_64 ?_
    refine E_iload dL_ruled_65 rfl ?_
    refine E_iadd_n dL_ruled_67 ?_
    refine E_istore dL_ruled_68 (Nat.le_of_ble_eq_true rfl) (by decide) rfl ?_
    refine E_aload_n dL_ruled_70 rfl ?_
    refine E_iload dL_ruled_71 rfl ?_
    refine E_ialdL (v := nI (mEn _ _)) dL_ruled_73 (l_129 hL) (k_129 hL) rfl (by omega) (by decide) (h.me hf hl) ?_
    refine E_bipush (v := nI 15) dL_ruled_74 (by decide) ?_
    refine E_iand dL_ruled_76 ?_
    rw [mE_0_15 h.wf]
    refine E_istore dL_ruled_77 (Nat.le_of_ble_eq_true rfl) (by decide) rfl ?_
    refine s1_L_ruled hmb.1 (fun x0 d0 => ?_)
    refine s2_L_ruled hmb.1 (fun x1 d1 => ?_)
    refine s3_L_ruled hmb.1 (fun x2 d2 => ?_)
    refine s4_L_ruled hmb.1 (fun x3 d3 => ?_)
    refine s5_L_ruled hmb.1 (fun x4 d4 => ?_)
    refine s6_L_ruled hmb.1 (fun x5 d5 => ?_)
    exact s7_L_ruled hst hs hl (drZ_of hmb.1 d0 d1 d2 d3 d4 d5) K
  · refine E_aload_n dL_ruled_16 rfl ?_
    refine E_iconst (v := nI 0) dL_ruled_17 (by decide) ?_
    refine E_iconst (v := nI 0) dL_ruled_18 (by decide) ?_
    refine E_iconst (v := nI 0) dL_ruled_19 (by decide) ?_
    refine E_iconst (v := nI 0) dL_ruled_20 (by decide) ?_
    refine E_iconst (v := nI 0) dL_ruled_21 (by decide) ?_
    refine E_iconst (v := nI 0) dL_ruled_22 (by decide) ?_
    refine E_iconst (v := nI 0) dL_ruled_23 (by decide) ?_
    refine E_callT8 (fr' := 8) (k1 := 1) (n1 := 6) (k2 := 11) (n2 := 66) dL_ruled_24 kO_L_rule kL_L_279 (by exact Nat.le_of_ble_eq_true rfl) (by decide) (by exact Nat.le_of_ble_eq_true rfl) (Or.inr (gW_at 1228 (by decide +kernel) (by decide +kernel))) rfl ?_
    refine w_ruleI hst hS (hcn (by omega)) ?_
    refine gKv ?_
    refine E_sipush (v := -7100) dL_ruled_27 (by decide) ?_
    refine E_icmp_ne_r (tgt := 48) dL_ruled_30 (by decide) (fun c0 => absurd c0 (by decide)) (fun _ => ?_)
    refine E_aload_n dL_ruled_33 rfl ?_
    refine E_iconst (v := nI 0) dL_ruled_34 (by decide) ?_
    refine E_callT2 (fr' := 8) (k1 := 1) (n1 := 6) (k2 := 10) (n2 := 60) dL_ruled_35 kO_L_size kL_L_282 (by exact Nat.le_of_ble_eq_true rfl) (by decide) (by exact Nat.le_of_ble_eq_true rfl) (Or.inr (gW_at 1264 (by decide +kernel) (by decide +kernel))) rfl ?_
    refine w_size hst hS (fun j hj e _ _ _ => absurd ((iBel_iff (c := cnt0 c) (by show cN c 129 (fc0 c) < 2 ^ 30; omega)).mpr ⟨j, hj, e⟩) (hcn (by omega))) (fun z => ?_)
    refine gKv ?_
    refine E_sipush (v := -7100) dL_ruled_38 (by decide) ?_
    refine E_icmp_ne_r (tgt := 48) dL_ruled_41 (by decide) (fun c0 => absurd c0 (by decide)) (fun _ => ?_)
    refine E_iconst (v := nI 1) dL_ruled_44 (by decide) ?_
    refine E_goto (tgt := 49) dL_ruled_45 (by decide) ?_
    refine E_iret dL_ruled_49 (Or.inr ⟨rfl, by decide⟩) ?_
    exact K _ _ _ hs (fun _ => rfl)
