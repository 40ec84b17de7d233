/-! what both objects hold between two calls -/
def INV (s : St) (b d : Nat) : Prop := ∃ m, CM s (b + 1) 0 m ∧ MM s d 0 m ∧ BM m ∧ XK s b d ∧ XT s b d ∧ XR s b d ∧ XS s b d ∧ XH s b d ∧ XA s b d ∧ XW s d
def PR {κ : Type} (b d : Nat) (s : St) (f g : St → Option (κ × St)) : Prop := ∃ x s1 s2, f s = some (x, s1) ∧ g s1 = some (x, s2) ∧ INV s2 b d
section INVS
variable {s t : St} {b d : Nat} {m : MS}
def uKp (b d : Nat) : Nat → Nat → Prop := fun k j => (k = b ∨ k = d) ∧ j = 3
theorem xk_o (hd : d = b + 53) (h : XK s b d) (f : Fr2 (wO b d) (fun _ _ => False) s t) : XK t b d := XK.fr2 h f (fun k q1 q2 => by unfold wO wC wQ; omega) (by unfold wO wC wQ; omega) (by unfold wO wC wQ; omega) (by unfold wO wC wQ; omega) (fun q => q) (fun q => q) (fun _ q => q)
theorem xt_o (hd : d = b + 53) (h : XT s b d) (f : Fr2 (wO b d) (fun _ _ => False) s t) : XT t b d := XT.fr2 h f (by unfold wO wC wQ; omega) (by unfold wO wC wQ; omega) (by unfold wO wC wQ; omega) (by unfold wO wC wQ; omega) (fun q => q) (fun q => q)
theorem xr_o (hd : d = b + 53) (h : XR s b d) (f : Fr2 (wO b d) (fun _ _ => False) s t) : XR t b d := XR.fr2 h f (fun k q1 q2 => by unfold wO wC wQ; omega) (by unfold wO wC wQ; omega) (by unfold wO wC wQ; omega) (by unfold wO wC wQ; omega) (fun q => q) (fun q => q)
theorem xs_o (hd : d = b + 53) (h : XS s b d) (f : Fr2 (wO b d) (fun _ _ => False) s t) : XS t b d := XS.fr2 h f (fun k q1 q2 q3 => by unfold wO wC wQ; omega) (fun k q1 q2 => by unfold wO wC wQ; omega)
theorem xh_o (hd : d = b + 53) (h : XH s b d) (f : Fr2 (wO b d) (fun _ _ => False) s t) : XH t b d := XH.fr2 h f (fun k q => by unfold wShelf at q; unfold wO wC wQ; omega)
theorem xa_o (hd : d = b + 53) (h : XA s b d) (f : Fr2 (wO b d) (fun _ _ => False) s t) : XA t b d := XA.fr2 h f (by unfold wO wC wQ; omega) (by unfold wO wC wQ; omega) (by unfold wO wC wQ; omega) (by unfold wO wC wQ; omega) (fun q => q) (fun q => q)
theorem xw_o (hd : d = b + 53) (h : XW s d) (f : Fr2 (wO b d) (fun _ _ => False) s t) : XW t d := XW.fr2 h f (by unfold wO wC wQ; omega)
theorem xk_row (hd : d = b + 53) (h : XK s b d) (f : Fr2 (wRow b d) (fun _ _ => False) s t) : XK t b d := XK.fr2 h f (fun k q1 q2 => by unfold wRow; omega) (by unfold wRow; omega) (by unfold wRow; omega) (by unfold wRow; omega) (fun q => q) (fun q => q) (fun _ q => q)
theorem xt_row (hd : d = b + 53) (h : XT s b d) (f : Fr2 (wRow b d) (fun _ _ => False) s t) : XT t b d := XT.fr2 h f (by unfold wRow; omega) (by unfold wRow; omega) (by unfold wRow; omega) (by unfold wRow; omega) (fun q => q) (fun q => q)
theorem xs_row (hd : d = b + 53) (h : XS s b d) (f : Fr2 (wRow b d) (fun _ _ => False) s t) : XS t b d := XS.fr2 h f (fun k q1 q2 q3 => by unfold wRow; omega) (fun k q1 q2 => by unfold wRow; omega)
theorem xh_row (hd : d = b + 53) (h : XH s b d) (f : Fr2 (wRow b d) (fun _ _ => False) s t) : XH t b d := XH.fr2 h f (fun k q => by unfold wShelf at q; unfold wRow; omega)
theorem xa_row (hd : d = b + 53) (h : XA s b d) (f : Fr2 (wRow b d) (fun _ _ => False) s t) : XA t b d := XA.fr2 h f (by unfold wRow; omega) (by unfold wRow; omega) (by unfold wRow; omega) (by unfold wRow; omega) (fun q => q) (fun q => q)
theorem cm_row (hd : d = b + 53) (h : CM s (b + 1) 0 m) (f : Fr2 (wRow b d) (fun _ _ => False) s t) : CM t (b + 1) 0 m := CM.fr2 h f (fun k q1 q2 => by unfold wRow; omega) (fun _ q => q)
theorem mm_row (hd : d = b + 53) (h : MM s d 0 m) (f : Fr2 (wRow b d) (fun _ _ => False) s t) : MM t d 0 m := MM.fr2 h f (by unfold wRow; omega) (by unfold wRow; omega) (fun q => q)
theorem xw_row (hd : d = b + 53) (h : XW s d) (f : Fr2 (wRow b d) (fun _ _ => False) s t) : XW t d := XW.fr2 h f (by unfold wRow; omega)
theorem xk_prv (hd : d = b + 53) (h : XK s b d) (f : Fr2 (wRow2 b d) (uRow b d) s t) : XK t b d := XK.fr2 h f (fun k q1 q2 => by unfold wRow2 wO wC wQ wRow; omega) (by unfold wRow2 wO wC wQ wRow; omega) (by unfold wRow2 wO wC wQ wRow; omega) (by unfold wRow2 wO wC wQ wRow; omega) (by unfold uRow; omega) (by unfold uRow; omega) (fun j => by unfold uRow; omega)
theorem xt_prv (hd : d = b + 53) (h : XT s b d) (f : Fr2 (wRow2 b d) (uRow b d) s t) : XT t b d := XT.fr2 h f (by unfold wRow2 wO wC wQ wRow; omega) (by unfold wRow2 wO wC wQ wRow; omega) (by unfold wRow2 wO wC wQ wRow; omega) (by unfold wRow2 wO wC wQ wRow; omega) (by unfold uRow; omega) (by unfold uRow; omega)
theorem xs_prv (hd : d = b + 53) (h : XS s b d) (f : Fr2 (wRow2 b d) (uRow b d) s t) : XS t b d := XS.fr2 h f (fun k q1 q2 q3 => by unfold wRow2 wO wC wQ wRow; omega) (fun k q1 q2 => by unfold wRow2 wO wC wQ wRow; omega)
theorem xh_prv (hd : d = b + 53) (h : XH s b d) (f : Fr2 (wRow2 b d) (uRow b d) s t) : XH t b d := XH.fr2 h f (fun k q => by unfold wShelf at q; unfold wRow2 wO wC wQ wRow; omega)
theorem xa_prv (hd : d = b + 53) (h : XA s b d) (f : Fr2 (wRow2 b d) (uRow b d) s t) : XA t b d := XA.fr2 h f (by unfold wRow2 wO wC wQ wRow; omega) (by unfold wRow2 wO wC wQ wRow; omega) (by unfold wRow2 wO wC wQ wRow; omega) (by unfold wRow2 wO wC wQ wRow; omega) (by unfold uRow; omega) (by unfold uRow; omega)
theorem xw_prv (hd : d = b + 53) (h : XW s d) (f : Fr2 (wRow2 b d) (uRow b d) s t) : XW t d := XW.fr2 h f (by unfold wRow2 wO wC wQ wRow; omega)
theorem xk_sh (hd : d = b + 53) (h : XK s b d) (f : Fr2 (wSh b d) (fun _ _ => False) s t) : XK t b d := XK.fr2 h f (fun k q1 q2 => by unfold wSh; omega) (by unfold wSh; omega) (by unfold wSh; omega) (by unfold wSh; omega) (fun q => q) (fun q => q) (fun _ q => q)
theorem xt_sh (hd : d = b + 53) (h : XT s b d) (f : Fr2 (wSh b d) (fun _ _ => False) s t) : XT t b d := XT.fr2 h f (by unfold wSh; omega) (by unfold wSh; omega) (by unfold wSh; omega) (by unfold wSh; omega) (fun q => q) (fun q => q)
theorem xr_sh (hd : d = b + 53) (h : XR s b d) (f : Fr2 (wSh b d) (fun _ _ => False) s t) : XR t b d := XR.fr2 h f (fun k q1 q2 => by unfold wSh; omega) (by unfold wSh; omega) (by unfold wSh; omega) (by unfold wSh; omega) (fun q => q) (fun q => q)
theorem xh_sh (hd : d = b + 53) (h : XH s b d) (f : Fr2 (wSh b d) (fun _ _ => False) s t) : XH t b d := XH.fr2 h f (fun k q => by unfold wShelf at q; unfold wSh; omega)
theorem xa_sh (hd : d = b + 53) (h : XA s b d) (f : Fr2 (wSh b d) (fun _ _ => False) s t) : XA t b d := XA.fr2 h f (by unfold wSh; omega) (by unfold wSh; omega) (by unfold wSh; omega) (by unfold wSh; omega) (fun q => q) (fun q => q)
theorem cm_sh (hd : d = b + 53) (h : CM s (b + 1) 0 m) (f : Fr2 (wSh b d) (fun _ _ => False) s t) : CM t (b + 1) 0 m := CM.fr2 h f (fun k q1 q2 => by unfold wSh; omega) (fun _ q => q)
theorem mm_sh (hd : d = b + 53) (h : MM s d 0 m) (f : Fr2 (wSh b d) (fun _ _ => False) s t) : MM t d 0 m := MM.fr2 h f (by unfold wSh; omega) (by unfold wSh; omega) (fun q => q)
theorem xw_sh (hd : d = b + 53) (h : XW s d) (f : Fr2 (wSh b d) (fun _ _ => False) s t) : XW t d := XW.fr2 h f (by unfold wSh; omega)
theorem xt_kp (hd : d = b + 53) (h : XT s b d) (f : Fr2 (wKp b d) (uKp b d) s t) : XT t b d := XT.fr2 h f (by unfold wKp; omega) (by unfold wKp; omega) (by unfold wKp; omega) (by unfold wKp; omega) (by unfold uKp; omega) (by unfold uKp; omega)
theorem xr_kp (hd : d = b + 53) (h : XR s b d) (f : Fr2 (wKp b d) (uKp b d) s t) : XR t b d := XR.fr2 h f (fun k q1 q2 => by unfold wKp; omega) (by unfold wKp; omega) (by unfold wKp; omega) (by unfold wKp; omega) (by unfold uKp; omega) (by unfold uKp; omega)
theorem xs_kp (hd : d = b + 53) (h : XS s b d) (f : Fr2 (wKp b d) (uKp b d) s t) : XS t b d := XS.fr2 h f (fun k q1 q2 q3 => by unfold wKp; omega) (fun k q1 q2 => by unfold wKp; omega)
theorem xh_kp (hd : d = b + 53) (h : XH s b d) (f : Fr2 (wKp b d) (uKp b d) s t) : XH t b d := XH.fr2 h f (fun k q => by unfold wShelf at q; unfold wKp; omega)
theorem xa_kp (hd : d = b + 53) (h : XA s b d) (f : Fr2 (wKp b d) (uKp b d) s t) : XA t b d := XA.fr2 h f (by unfold wKp; omega) (by unfold wKp; omega) (by unfold wKp; omega) (by unfold wKp; omega) (by unfold uKp; omega) (by unfold uKp; omega)
theorem xw_kp (hd : d = b + 53) (h : XW s d) (f : Fr2 (wKp b d) (uKp b d) s t) : XW t d := XW.fr2 h f (by unfold wKp; omega)
theorem xk_shf (hd : d = b + 53) (h : XK s b d) (f : Fr2 (wShelf b d) (fun _ _ => False) s t) : XK t b d := XK.fr2 h f (fun k q1 q2 => by unfold wShelf; omega) (by unfold wShelf; omega) (by unfold wShelf; omega) (by unfold wShelf; omega) (fun q => q) (fun q => q) (fun _ q => q)
theorem xt_shf (hd : d = b + 53) (h : XT s b d) (f : Fr2 (wShelf b d) (fun _ _ => False) s t) : XT t b d := XT.fr2 h f (by unfold wShelf; omega) (by unfold wShelf; omega) (by unfold wShelf; omega) (by unfold wShelf; omega) (fun q => q) (fun q => q)
theorem xr_shf (hd : d = b + 53) (h : XR s b d) (f : Fr2 (wShelf b d) (fun _ _ => False) s t) : XR t b d := XR.fr2 h f (fun k q1 q2 => by unfold wShelf; omega) (by unfold wShelf; omega) (by unfold wShelf; omega) (by unfold wShelf; omega) (fun q => q) (fun q => q)
theorem xs_shf (hd : d = b + 53) (h : XS s b d) (f : Fr2 (wShelf b d) (fun _ _ => False) s t) : XS t b d := XS.fr2 h f (fun k q1 q2 q3 => by unfold wShelf; omega) (fun k q1 q2 => by unfold wShelf; omega)
theorem xa_shf (hd : d = b + 53) (h : XA s b d) (f : Fr2 (wShelf b d) (fun _ _ => False) s t) : XA t b d := XA.fr2 h f (by unfold wShelf; omega) (by unfold wShelf; omega) (by unfold wShelf; omega) (by unfold wShelf; omega) (fun q => q) (fun q => q)
theorem cm_shf (hd : d = b + 53) (h : CM s (b + 1) 0 m) (f : Fr2 (wShelf b d) (fun _ _ => False) s t) : CM t (b + 1) 0 m := CM.fr2 h f (fun k q1 q2 => by unfold wShelf; omega) (fun _ q => q)
theorem mm_shf (hd : d = b + 53) (h : MM s d 0 m) (f : Fr2 (wShelf b d) (fun _ _ => False) s t) : MM t d 0 m := MM.fr2 h f (by unfold wShelf; omega) (by unfold wShelf; omega) (fun q => q)
theorem xw_shf (hd : d = b + 53) (h : XW s d) (f : Fr2 (wShelf b d) (fun _ _ => False) s t) : XW t d := XW.fr2 h f (by unfold wShelf; omega)
theorem xk_act (hd : d = b + 53) (h : XK s b d) (f : Fr2 (wAct b d) (uAct d) s t) : XK t b d := XK.fr2 h f (fun k q1 q2 => by unfold wAct; omega) (by unfold wAct; omega) (by unfold wAct; omega) (by unfold wAct; omega) (by unfold uAct; omega) (by unfold uAct; omega) (fun j => by unfold uAct; omega)
theorem xt_act (hd : d = b + 53) (h : XT s b d) (f : Fr2 (wAct b d) (uAct d) s t) : XT t b d := XT.fr2 h f (by unfold wAct; omega) (by unfold wAct; omega) (by unfold wAct; omega) (by unfold wAct; omega) (by unfold uAct; omega) (by unfold uAct; omega)
theorem xr_act (hd : d = b + 53) (h : XR s b d) (f : Fr2 (wAct b d) (uAct d) s t) : XR t b d := XR.fr2 h f (fun k q1 q2 => by unfold wAct; omega) (by unfold wAct; omega) (by unfold wAct; omega) (by unfold wAct; omega) (by unfold uAct; omega) (by unfold uAct; omega)
theorem xs_act (hd : d = b + 53) (h : XS s b d) (f : Fr2 (wAct b d) (uAct d) s t) : XS t b d := XS.fr2 h f (fun k q1 q2 q3 => by unfold wAct; omega) (fun k q1 q2 => by unfold wAct; omega)
theorem xh_act (hd : d = b + 53) (h : XH s b d) (f : Fr2 (wAct b d) (uAct d) s t) : XH t b d := XH.fr2 h f (fun k q => by unfold wShelf at q; unfold wAct; omega)
theorem cm_act (hd : d = b + 53) (h : CM s (b + 1) 0 m) (f : Fr2 (wAct b d) (uAct d) s t) : CM t (b + 1) 0 m := CM.fr2 h f (fun k q1 q2 => by unfold wAct; omega) (fun j => by unfold uAct; omega)
theorem mm_act (hd : d = b + 53) (h : MM s d 0 m) (f : Fr2 (wAct b d) (uAct d) s t) : MM t d 0 m := MM.fr2 h f (by unfold wAct; omega) (by unfold wAct; omega) (by unfold uAct; omega)
theorem xw_act (hd : d = b + 53) (h : XW s d) (f : Fr2 (wAct b d) (uAct d) s t) : XW t d := XW.fr2 h f (by unfold wAct; omega)
theorem xk_fd (hd : d = b + 53) (h : XK s b d) (f : Fr2 (wFeed b d) (uFeed b d) s t) : XK t b d := XK.fr2 h f (fun k q1 q2 => by unfold wFeed; omega) (by unfold wFeed; omega) (by unfold wFeed; omega) (by unfold wFeed; omega) (by unfold uFeed; omega) (by unfold uFeed; omega) (fun j => by unfold uFeed; omega)
theorem xr_fd (hd : d = b + 53) (h : XR s b d) (f : Fr2 (wFeed b d) (uFeed b d) s t) : XR t b d := XR.fr2 h f (fun k q1 q2 => by unfold wFeed; omega) (by unfold wFeed; omega) (by unfold wFeed; omega) (by unfold wFeed; omega) (by unfold uFeed; omega) (by unfold uFeed; omega)
theorem xs_fd (hd : d = b + 53) (h : XS s b d) (f : Fr2 (wFeed b d) (uFeed b d) s t) : XS t b d := XS.fr2 h f (fun k q1 q2 q3 => by unfold wFeed; omega) (fun k q1 q2 => by unfold wFeed; omega)
theorem xh_fd (hd : d = b + 53) (h : XH s b d) (f : Fr2 (wFeed b d) (uFeed b d) s t) : XH t b d := XH.fr2 h f (fun k q => by unfold wShelf at q; unfold wFeed; omega)
theorem xa_fd (hd : d = b + 53) (h : XA s b d) (f : Fr2 (wFeed b d) (uFeed b d) s t) : XA t b d := XA.fr2 h f (by unfold wFeed; omega) (by unfold wFeed; omega) (by unfold wFeed; omega) (by unfold wFeed; omega) (by unfold uFeed; omega) (by unfold uFeed; omega)
theorem cm_fd (hd : d = b + 53) (h : CM s (b + 1) 0 m) (f : Fr2 (wFeed b d) (uFeed b d) s t) : CM t (b + 1) 0 m := CM.fr2 h f (fun k q1 q2 => by unfold wFeed; omega) (fun j => by unfold uFeed; omega)
theorem mm_fd (hd : d = b + 53) (h : MM s d 0 m) (f : Fr2 (wFeed b d) (uFeed b d) s t) : MM t d 0 m := MM.fr2 h f (by unfold wFeed; omega) (by unfold wFeed; omega) (by unfold uFeed; omega)
theorem xw_fd (hd : d = b + 53) (h : XW s d) (f : Fr2 (wFeed b d) (uFeed b d) s t) : XW t d := XW.fr2 h f (by unfold wFeed; omega)
theorem xk_mr (hd : d = b + 53) (h : XK s b d) (f : Fr2 (wO b d) (uMoor b d) s t) : XK t b d := XK.fr2 h f (fun k q1 q2 => by unfold wO wC wQ; omega) (by unfold wO wC wQ; omega) (by unfold wO wC wQ; omega) (by unfold wO wC wQ; omega) (by unfold uMoor; omega) (by unfold uMoor; omega) (fun j => by unfold uMoor; omega)
theorem xs_mr (hd : d = b + 53) (h : XS s b d) (f : Fr2 (wO b d) (uMoor b d) s t) : XS t b d := XS.fr2 h f (fun k q1 q2 q3 => by unfold wO wC wQ; omega) (fun k q1 q2 => by unfold wO wC wQ; omega)
theorem xh_mr (hd : d = b + 53) (h : XH s b d) (f : Fr2 (wO b d) (uMoor b d) s t) : XH t b d := XH.fr2 h f (fun k q => by unfold wShelf at q; unfold wO wC wQ; omega)
theorem xa_mr (hd : d = b + 53) (h : XA s b d) (f : Fr2 (wO b d) (uMoor b d) s t) : XA t b d := XA.fr2 h f (by unfold wO wC wQ; omega) (by unfold wO wC wQ; omega) (by unfold wO wC wQ; omega) (by unfold wO wC wQ; omega) (by unfold uMoor; omega) (by unfold uMoor; omega)
theorem xw_mr (hd : d = b + 53) (h : XW s d) (f : Fr2 (wO b d) (uMoor b d) s t) : XW t d := XW.fr2 h f (by unfold wO wC wQ; omega)
theorem INV.po {κ : Type} {f g : St → Option (κ × St)} (hd : d = b + 53) (h : INV s b d) (hp : ∀ m, CM s (b + 1) 0 m → MM s d 0 m → BM m → PO b d s f g) : PR b d s f g := by
  obtain ⟨m, hC, hM, hB, h1, h2, h3, h4, h5, h6, h7⟩ := h
  obtain ⟨x, s1, s2, m', e1, e2, C', M', B', F⟩ := hp m hC hM hB
  have F2 : Fr2 (wO b d) (fun _ _ => False) s s2 := F.to2
  exact ⟨x, s1, s2, e1, e2, m', C', M', B', xk_o hd h1 F2, xt_o hd h2 F2, xr_o hd h3 F2, xs_o hd h4 F2, xh_o hd h5 F2, xa_o hd h6 F2, xw_o hd h7 F2⟩
theorem i_alterRow (hd : d = b + 53) (h : INV s b d) (a1 a2 a3 : Int32) : PR b d s (f_X3_alterRow b a1 a2 a3) (f_X4_alterRow d a1 a2 a3) := by
  obtain ⟨m, hC, hM, hB, h1, h2, h3, h4, h5, h6, h7⟩ := h
  obtain ⟨x, s1, s2, e1, e2, X', F⟩ := p_alterRow hd h3 a1 a2 a3
  have F2 : Fr2 (wRow b d) (fun _ _ => False) s s2 := F.to2
  exact ⟨x, s1, s2, e1, e2, m, cm_row hd hC F2, mm_row hd hM F2, hB, xk_row hd h1 F2, xt_row hd h2 F2, X', xs_row hd h4 F2, xh_row hd h5 F2, xa_row hd h6 F2, xw_row hd h7 F2⟩
theorem i_prove (hd : d = b + 53) (h : INV s b d) (a1 a2 : Int32) : PR b d s (f_X3_prove b a1 a2) (f_X4_prove d a1 a2) := by
  obtain ⟨m, hC, hM, hB, h1, h2, h3, h4, h5, h6, h7⟩ := h
  obtain ⟨x, s1, s2, e1, e2, X', C', M', F2⟩ := p_prove hd h3 hC hM hB a1 a2
  exact ⟨x, s1, s2, e1, e2, m, C', M', hB, xk_prv hd h1 F2, xt_prv hd h2 F2, X', xs_prv hd h4 F2, xh_prv hd h5 F2, xa_prv hd h6 F2, xw_prv hd h7 F2⟩
theorem i_put (hd : d = b + 53) (h : INV s b d) (a1 a2 a3 : Int32) : PR b d s (f_X3_put b a1 a2 a3) (f_X4_put d a1 a2 a3) := by
  obtain ⟨m, hC, hM, hB, h1, h2, h3, h4, h5, h6, h7⟩ := h
  obtain ⟨x, s1, s2, e1, e2, X', F⟩ := p_put hd h4 a1 a2 a3
  have F2 : Fr2 (wSh b d) (fun _ _ => False) s s2 := F.to2
  exact ⟨x, s1, s2, e1, e2, m, cm_sh hd hC F2, mm_sh hd hM F2, hB, xk_sh hd h1 F2, xt_sh hd h2 F2, xr_sh hd h3 F2, X', xh_sh hd h5 F2, xa_sh hd h6 F2, xw_sh hd h7 F2⟩
theorem i_sheet (hd : d = b + 53) (h : INV s b d) (a1 a2 a3 : Int32) : PR b d s (f_X3_sheet b a1 a2 a3) (f_X4_sheet d a1 a2 a3) := by
  obtain ⟨m, hC, hM, hB, h1, h2, h3, h4, h5, h6, h7⟩ := h
  obtain ⟨x, s1, s2, e1, e2, X', F⟩ := p_sheet hd h4 a1 a2 a3
  have F2 : Fr2 (wSh b d) (fun _ _ => False) s s2 := F.to2
  exact ⟨x, s1, s2, e1, e2, m, cm_sh hd hC F2, mm_sh hd hM F2, hB, xk_sh hd h1 F2, xt_sh hd h2 F2, xr_sh hd h3 F2, X', xh_sh hd h5 F2, xa_sh hd h6 F2, xw_sh hd h7 F2⟩
theorem i_keep (hd : d = b + 53) (h : INV s b d) : PR b d s (f_X3_keep b) (f_X4_keep d) := by
  obtain ⟨m, hC, hM, hB, h1, h2, h3, h4, h5, h6, h7⟩ := h
  obtain ⟨x, s1, s2, e1, e2, X', C', M', k1, k2⟩ := p_keep hd hC hM hB
  have F2 : Fr2 (wKp b d) (uKp b d) s s2 := ⟨fun k j hk hj => k1 k j hk (fun q z => hj ⟨q, z⟩), k2⟩
  exact ⟨x, s1, s2, e1, e2, m, C', M', hB, X', xt_kp hd h2 F2, xr_kp hd h3 F2, xs_kp hd h4 F2, xh_kp hd h5 F2, xa_kp hd h6 F2, xw_kp hd h7 F2⟩
theorem i_shelf (hd : d = b + 53) (h : INV s b d) (a1 a2 a3 : Int32) : PR b d s (f_X3_shelf b a1 a2 a3) (f_X4_shelf d a1 a2 a3) := by
  obtain ⟨m, hC, hM, hB, h1, h2, h3, h4, h5, h6, h7⟩ := h
  obtain ⟨x, s1, s2, e1, e2, X', F⟩ := p_shelf hd h5 h4 hC hM hB a1 a2 a3
  have F2 : Fr2 (wShelf b d) (fun _ _ => False) s s2 := F.to2
  exact ⟨x, s1, s2, e1, e2, m, cm_shf hd hC F2, mm_shf hd hM F2, hB, xk_shf hd h1 F2, xt_shf hd h2 F2, xr_shf hd h3 F2, xs_shf hd h4 F2, X', xa_shf hd h6 F2, xw_shf hd h7 F2⟩
theorem i_act (hd : d = b + 53) (h : INV s b d) (a1 a2 a3 : Int32) : PR b d s (f_X3_act b a1 a2 a3) (f_X4_act d a1 a2 a3) := by
  obtain ⟨m, hC, hM, hB, h1, h2, h3, h4, h5, h6, h7⟩ := h
  obtain ⟨x, s1, s2, e1, e2, X', F2⟩ := p_act hd h5 hC hM hB a1 a2 a3
  exact ⟨x, s1, s2, e1, e2, m, cm_act hd hC F2, mm_act hd hM F2, hB, xk_act hd h1 F2, xt_act hd h2 F2, xr_act hd h3 F2, xs_act hd h4 F2, xh_act hd h5 F2, X', xw_act hd h7 F2⟩
theorem i_feed (hd : d = b + 53) (h : INV s b d) (a1 : Int64) (a3 : Int32) : PR b d s (f_X3_feed b a1 a3) (f_X4_feed d a1 a3) := by
  obtain ⟨m, hC, hM, hB, h1, h2, h3, h4, h5, h6, h7⟩ := h
  obtain ⟨x, s1, s2, e1, e2, X', F2⟩ := p_feed hd h2 a1 a3
  exact ⟨x, s1, s2, e1, e2, m, cm_fd hd hC F2, mm_fd hd hM F2, hB, xk_fd hd h1 F2, X', xr_fd hd h3 F2, xs_fd hd h4 F2, xh_fd hd h5 F2, xa_fd hd h6 F2, xw_fd hd h7 F2⟩
theorem i_moor (hd : d = b + 53) (h : INV s b d) : PR b d s (f_X3_moor b) (f_X4_moor d) := by
  obtain ⟨m, hC, hM, hB, h1, h2, h3, h4, h5, h6, h7⟩ := h
  obtain ⟨x, s1, s2, m', e1, e2, C', M', B', T', R', F2⟩ := p_moor hd h2 h3 h7 hC hM hB
  exact ⟨x, s1, s2, e1, e2, m', C', M', B', xk_mr hd h1 F2, T', R', xs_mr hd h4 F2, xh_mr hd h5 F2, xa_mr hd h6 F2, xw_mr hd h7 F2⟩
theorem i_set (hd : d = b + 53) (h : INV s b d) (a1 a2 : Int32) : PR b d s (f_X3_set b a1 a2) (f_X4_set d a1 a2) := h.po hd (fun _ hC hM hB => p_set hd hC hM hB a1 a2)
theorem i_sure (hd : d = b + 53) (h : INV s b d) (a1 a2 : Int32) : PR b d s (f_X3_sure b a1 a2) (f_X4_sure d a1 a2) := h.po hd (fun _ hC hM hB => p_sure hd hC hM hB a1 a2)
theorem i_bring (hd : d = b + 53) (h : INV s b d) (a1 a2 : Int32) : PR b d s (f_X3_bring b a1 a2) (f_X4_bring d a1 a2) := h.po hd (fun _ hC hM hB => p_bring hd hC hM hB a1 a2)
theorem i_mind (hd : d = b + 53) (h : INV s b d) (a1 a2 a3 : Int32) : PR b d s (f_X3_mind b a1 a2 a3) (f_X4_mind d a1 a2 a3) := h.po hd (fun _ hC hM hB => p_mind hd hC hM hB a1 a2 a3)
theorem i_water (hd : d = b + 53) (h : INV s b d) (a1 a2 : Int32) : PR b d s (f_X3_water b a1 a2) (f_X4_water d a1 a2) := h.po hd (fun _ hC hM hB => p_water hd hC hM hB a1 a2)
theorem i_seed (hd : d = b + 53) (h : INV s b d) (a1 : Int32) : PR b d s (f_X3_seed b a1) (f_X4_seed d a1) := h.po hd (fun _ hC hM hB => p_seed hd hC hM hB a1)
theorem i_height (hd : d = b + 53) (h : INV s b d) (a1 a2 : Int32) : PR b d s (f_X3_height b a1 a2) (f_X4_height d a1 a2) := h.po hd (fun _ hC hM hB => p_height hd hC hM hB a1 a2)
theorem i_person (hd : d = b + 53) (h : INV s b d) (a1 a2 a3 a4 : Int32) : PR b d s (f_X3_person b a1 a2 a3 a4) (f_X4_person d a1 a2 a3 a4) := h.po hd (fun _ hC hM hB => p_person hd hC hM hB a1 a2 a3 a4)
theorem i_years (hd : d = b + 53) (h : INV s b d) (a1 : Int32) : PR b d s (f_X3_years b a1) (f_X4_years d a1) := h.po hd (fun _ hC hM hB => p_years hd hC hM hB a1)
theorem i_level (hd : d = b + 53) (h : INV s b d) (a1 a2 : Int32) : PR b d s (f_X3_level b a1 a2) (f_X4_level d a1 a2) := h.po hd (fun _ hC hM hB => p_level hd hC hM hB a1 a2)
theorem i_damp (hd : d = b + 53) (h : INV s b d) (a1 : Int32) : PR b d s (f_X3_damp b a1) (f_X4_damp d a1) := h.po hd (fun _ hC hM hB => p_damp hd hC hM hB a1)
theorem i_loss (hd : d = b + 53) (h : INV s b d) (a1 : Int32) : PR b d s (f_X3_loss b a1) (f_X4_loss d a1) := h.po hd (fun _ hC hM hB => p_loss hd hC hM hB a1)
theorem i_drowned (hd : d = b + 53) (h : INV s b d) : PR b d s (f_X3_drowned b) (f_X4_drowned d) := h.po hd (fun _ hC hM hB => p_drowned hd hC hM hB)
theorem i_year (hd : d = b + 53) (h : INV s b d) : PR b d s (f_X3_year b) (f_X4_year d) := h.po hd (fun _ hC hM hB => p_year hd hC hM hB)
theorem i_revel (hd : d = b + 53) (h : INV s b d) (a1 : Int32) : PR b d s (f_X3_revel b a1) (f_X4_revel d a1) := h.po hd (fun _ hC hM hB => p_revel hd hC hM hB a1)
theorem i_whereFor (hd : d = b + 53) (h : INV s b d) (a1 a2 a3 : Int32) : PR b d s (f_X3_whereFor b a1 a2 a3) (f_X4_whereFor d a1 a2 a3) := h.po hd (fun _ hC hM hB => p_whereFor hd hC hM hB a1 a2 a3)
theorem i_kindFor (hd : d = b + 53) (h : INV s b d) (a1 a2 a3 : Int32) : PR b d s (f_X3_kindFor b a1 a2 a3) (f_X4_kindFor d a1 a2 a3) := h.po hd (fun _ hC hM hB => p_kindFor hd hC hM hB a1 a2 a3)
theorem i_annoyed (hd : d = b + 53) (h : INV s b d) (a1 a2 a3 : Int32) : PR b d s (f_X3_annoyed b a1 a2 a3) (f_X4_annoyed d a1 a2 a3) := h.po hd (fun _ hC hM hB => p_annoyed hd hC hM hB a1 a2 a3)
theorem i_needed (hd : d = b + 53) (h : INV s b d) (a1 a2 : Int32) : PR b d s (f_X3_needed b a1 a2) (f_X4_needed d a1 a2) := h.po hd (fun _ hC hM hB => p_needed hd hC hM hB a1 a2)
theorem i_fewest (hd : d = b + 53) (h : INV s b d) (a1 a2 : Int32) : PR b d s (f_X3_fewest b a1 a2) (f_X4_fewest d a1 a2) := h.po hd (fun _ hC hM hB => p_fewest hd hC hM hB a1 a2)
theorem i_loses (h : INV s b d) (a1 : Int32) : PP s (f_X3_loses b a1) (f_X4_loses d a1) := by
  obtain ⟨m, hC, hM, hB, h1, h2, h3, h4, h5, h6, h7⟩ := h
  exact p_loses hC hM hB a1
theorem i_lowest (h : INV s b d) (a1 : Int32) : PP s (f_X3_lowest b a1) (f_X4_lowest d a1) := by
  obtain ⟨m, hC, hM, hB, h1, h2, h3, h4, h5, h6, h7⟩ := h
  exact p_lowest hC hM hB a1
theorem i_of (h : INV s b d) (a1 a2 : Int32) : PP s (f_X3_of b a1 a2) (f_X4_of d a1 a2) := by
  obtain ⟨m, hC, hM, hB, h1, h2, h3, h4, h5, h6, h7⟩ := h
  exact p_of hC hM hB a1 a2
theorem i_cell (h : INV s b d) (a1 a2 : Int32) : PP s (f_X3_cell b a1 a2) (f_X4_cell d a1 a2) := by
  obtain ⟨m, hC, hM, hB, h1, h2, h3, h4, h5, h6, h7⟩ := h
  exact p_cell hC hM hB a1 a2
theorem i_state (h : INV s b d) (a1 : Int32) : PP s (f_X3_state b a1) (f_X4_state d a1) := by
  obtain ⟨m, hC, hM, hB, h1, h2, h3, h4, h5, h6, h7⟩ := h
  exact p_state hC hM hB a1
theorem i_wets (h : INV s b d) (a1 : Int32) : PP s (f_X3_wets b a1) (f_X4_wets d a1) := by
  obtain ⟨m, hC, hM, hB, h1, h2, h3, h4, h5, h6, h7⟩ := h
  exact p_wets hC hM hB a1
theorem i_ends (h : INV s b d) (a1 : Int32) : PP s (f_X3_ends b a1) (f_X4_ends d a1) := by
  obtain ⟨m, hC, hM, hB, h1, h2, h3, h4, h5, h6, h7⟩ := h
  exact p_ends hC hM hB a1
theorem i_hope (h : INV s b d) (a1 a2 : Int32) : PP s (f_X3_hope b a1 a2) (f_X4_hope d a1 a2) := by
  obtain ⟨m, hC, hM, hB, h1, h2, h3, h4, h5, h6, h7⟩ := h
  exact p_hope hC hM hB a1 a2
theorem i_odds (h : INV s b d) (a1 a2 a3 : Int32) : PP s (f_X3_odds b a1 a2 a3) (f_X4_odds d a1 a2 a3) := by
  obtain ⟨m, hC, hM, hB, h1, h2, h3, h4, h5, h6, h7⟩ := h
  exact p_odds hC hM hB a1 a2 a3
theorem i_lawOf (h : INV s b d) (a1 : Int32) : PP s (f_X3_lawOf b a1) (f_X4_lawOf d a1) := by
  obtain ⟨m, hC, hM, hB, h1, h2, h3, h4, h5, h6, h7⟩ := h
  exact p_lawOf hC hM a1
theorem i_row (h : INV s b d) (a1 a2 : Int32) : PP s (f_X3_row b a1 a2) (f_X4_row d a1 a2) := by
  obtain ⟨m, hC, hM, hB, h1, h2, h3, h4, h5, h6, h7⟩ := h
  exact p_row h3 a1 a2
theorem i_item (h : INV s b d) (a1 a2 a3 : Int32) : PP s (f_X3_item b a1 a2 a3) (f_X4_item d a1 a2 a3) := by
  obtain ⟨m, hC, hM, hB, h1, h2, h3, h4, h5, h6, h7⟩ := h
  exact p_item h4 a1 a2 a3
theorem i_trace (h : INV s b d) (a1 : Int32) : PP s (f_X3_trace b a1) (f_X4_trace d a1) := by
  obtain ⟨m, hC, hM, hB, h1, h2, h3, h4, h5, h6, h7⟩ := h
  exact p_trace h6 a1
theorem i_taken (h : INV s b d) (a1 a2 : Int32) : PP s (f_X3_taken b a1 a2) (f_X4_taken d a1 a2) := by
  obtain ⟨m, hC, hM, hB, h1, h2, h3, h4, h5, h6, h7⟩ := h
  exact p_taken h5 hC hM hB a1 a2
theorem i_many (h : INV s b d) (a1 : Int32) : PP s (f_X3_many b a1) (f_X4_many d a1) := by
  obtain ⟨m, hC, hM, hB, h1, h2, h3, h4, h5, h6, h7⟩ := h
  obtain ⟨L, T, _, t1, t2, _⟩ := h2
  obtain ⟨n, _, r1, r2, _⟩ := h3
  obtain ⟨k, _, a1', a2', _⟩ := h6
  exact p_many hC hM hB (r1.trans r2.symm) (t1.trans t2.symm) (a1'.trans a2'.symm) a1
theorem i_again (hd : d = b + 53) (h : INV s b d) : PR b d s (f_X3_again b) (f_X4_again d) := h.po hd (fun m hC hM hB => by
  obtain ⟨_, _, _, _, h1, _⟩ := h
  exact p_again hd h1 hC hM hB)
theorem i_fits (hd : d = b + 53) (h : INV s b d) (a1 a2 a3 a4 : Int32) : PR b d s (f_X3_fits b a1 a2 a3 a4) (f_X4_fits d a1 a2 a3 a4) := h.po hd (fun m hC hM hB => by
  obtain ⟨_, _, _, _, h1, h2, h3, h4, _⟩ := h
  exact p_fits hd h4 hC hM hB a1 a2 a3 a4)
theorem i_minds (hd : d = b + 53) (h : INV s b d) (a1 a2 a3 a4 : Int32) : PR b d s (f_X3_minds b a1 a2 a3 a4) (f_X4_minds d a1 a2 a3 a4) := h.po hd (fun m hC hM hB => by
  obtain ⟨_, _, _, _, h1, h2, h3, h4, _⟩ := h
  exact p_minds hd h4 hC hM hB a1 a2 a3 a4)
theorem i_judge (hd : d = b + 53) (h : INV s b d) (a1 : Int32) : PR b d s (f_X3_judge b a1) (f_X4_judge d a1) := h.po hd (fun m hC hM hB => by
  obtain ⟨_, _, _, _, h1, h2, h3, h4, _⟩ := h
  exact p_judge hd h3 hC hM hB a1)
theorem PR.go {κ α : Type} {f g : St → Option (κ × St)} (h : PR b d s f g) (P : κ → κ → Prop) (hP : ∀ x, P x x) (R : St → Option α) (Z : St → Option α) {D : ∀ x y, Decidable (P x y)} : ∃ s2, INV s2 b d ∧ (cb (f s) fun x s1 => cb (g s1) fun y s2 => @ite _ (P x y) (D x y) (R s2) (Z s2)) = R s2 := by
  obtain ⟨x, s1, s2, e1, e2, hI⟩ := h
  exact ⟨s2, hI, by rw [e1, cb_s, e2, cb_s, if_pos (hP x)]⟩
theorem PP.go {κ α : Type} {f g : St → Option κ} (h : PP s f g) (P : κ → κ → Prop) (hP : ∀ x, P x x) (R Z : Option α) {D : ∀ x y, Decidable (P x y)} : (cp (f s) fun x => cp (g s) fun y => @ite _ (P x y) (D x y) R Z) = R := by
  obtain ⟨x, e1, e2⟩ := h
  rw [e1, cp_s, e2, cp_s, if_pos (hP x)]
end INVS
