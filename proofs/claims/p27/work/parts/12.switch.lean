/-! switches -/
section GS
variable {g : gG} {fr k n : Nat} {μ : gMu} {pc : Nat} {ls st : List Value} {M : gM} {Q : Option Value ⊕ String → gM → Prop}
theorem E_swIn {dflt lo hi : Int} {offs : Array Int} {len : Nat} {x : Int32} {off : Int} {tgt : Nat} (hd : decode (gcc μ) pc = .ok (.tableswitch dflt lo hi offs, len)) (h1 : ¬ x.toInt < lo) (h2 : ¬ hi < x.toInt) (ho : offs[(x.toInt - lo).toNat]? = some off) (ht : (pc : Int) + off = (tgt : Int)) (k0 : E g fr k n μ tgt ls st M Q) : E g fr k n μ pc ls (.int x :: st) M Q :=
  E_stk (fun _ h => gok_cons h) (fun _ _ _ _ _ _ _ _ _ _ _ _ _ _ _ _ hx hb _ _ kk => lv_tableIn hx hb hd h1 h2 ho ht kk) k0
theorem E_swOut {dflt lo hi : Int} {offs : Array Int} {len : Nat} {x : Int32} {tgt : Nat} (hd : decode (gcc μ) pc = .ok (.tableswitch dflt lo hi offs, len)) (h : x.toInt < lo ∨ hi < x.toInt) (ht : (pc : Int) + dflt = (tgt : Int)) (k0 : E g fr k n μ tgt ls st M Q) : E g fr k n μ pc ls (.int x :: st) M Q :=
  E_stk (fun _ h => gok_cons h) (fun _ _ _ _ _ _ _ _ _ _ _ _ _ _ _ _ hx hb _ _ kk => lv_tableOut hx hb hd h ht kk) k0
end GS
