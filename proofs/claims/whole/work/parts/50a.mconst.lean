section MROW2
variable {X : Nat × (Nat → Int32)} {d : Nat} {Ret : Option Value → pc_W → Prop} {cb sb : Nat} {pc : Nat} {L : List (Option Value)} {st : List Value} {mn : String} {cc : ByteArray} {nL : Nat} {rk0 : Option FieldType} {S : CS} {tl : pc_W}
theorem maK_43 {tx : (Nat → Int32)} {ts : (Nat → Int32)} {tc : Int32} {tp : (Nat → Int32)} {tn : Int32} {U : MU} {Λ : ML} {C : MC} {K : MK} {H : MH} {i : Int32} (k : Nat) (hd : decode cc pc = .ok (.iaload, 1)) (e : i = nI k) (hi : k < 960) (kk : Ex X (RX10, mn, cc, nL, rk0) d Ret cb sb (pc + 1) L (.int (tx k) :: st) (cst S ++ (mw (tx, ts, tc, tp, tn) U Λ C K H ++ tl))) : Ex X (RX10, mn, cc, nL, rk0) d Ret cb sb pc L (.int i :: .ref 43 :: st) (cst S ++ (mw (tx, ts, tc, tp, tn) U Λ C K H ++ tl)) := by
  subst e
  exact maN_43 hd hi kk
theorem msK_43 {tx : (Nat → Int32)} {ts : (Nat → Int32)} {tc : Int32} {tp : (Nat → Int32)} {tn : Int32} {U : MU} {Λ : ML} {C : MC} {K : MK} {H : MH} {i x : Int32} (k : Nat) (hd : decode cc pc = .ok (.iastore, 1)) (e : i = nI k) (hi : k < 960) (kk : Ex X (RX10, mn, cc, nL, rk0) d Ret cb sb (pc + 1) L st (cst S ++ (mw ((upd tx k x), ts, tc, tp, tn) U Λ C K H ++ tl))) : Ex X (RX10, mn, cc, nL, rk0) d Ret cb sb pc L (.int x :: .int i :: .ref 43 :: st) (cst S ++ (mw (tx, ts, tc, tp, tn) U Λ C K H ++ tl)) := by
  subst e
  exact msN_43 hd hi kk
theorem maK_44 {tx : (Nat → Int32)} {ts : (Nat → Int32)} {tc : Int32} {tp : (Nat → Int32)} {tn : Int32} {U : MU} {Λ : ML} {C : MC} {K : MK} {H : MH} {i : Int32} (k : Nat) (hd : decode cc pc = .ok (.iaload, 1)) (e : i = nI k) (hi : k < 6) (kk : Ex X (RX10, mn, cc, nL, rk0) d Ret cb sb (pc + 1) L (.int (ts k) :: st) (cst S ++ (mw (tx, ts, tc, tp, tn) U Λ C K H ++ tl))) : Ex X (RX10, mn, cc, nL, rk0) d Ret cb sb pc L (.int i :: .ref 44 :: st) (cst S ++ (mw (tx, ts, tc, tp, tn) U Λ C K H ++ tl)) := by
  subst e
  exact maN_44 hd hi kk
theorem msK_44 {tx : (Nat → Int32)} {ts : (Nat → Int32)} {tc : Int32} {tp : (Nat → Int32)} {tn : Int32} {U : MU} {Λ : ML} {C : MC} {K : MK} {H : MH} {i x : Int32} (k : Nat) (hd : decode cc pc = .ok (.iastore, 1)) (e : i = nI k) (hi : k < 6) (kk : Ex X (RX10, mn, cc, nL, rk0) d Ret cb sb (pc + 1) L st (cst S ++ (mw (tx, (upd ts k x), tc, tp, tn) U Λ C K H ++ tl))) : Ex X (RX10, mn, cc, nL, rk0) d Ret cb sb pc L (.int x :: .int i :: .ref 44 :: st) (cst S ++ (mw (tx, ts, tc, tp, tn) U Λ C K H ++ tl)) := by
  subst e
  exact msN_44 hd hi kk
theorem maK_45 {tx : (Nat → Int32)} {ts : (Nat → Int32)} {tc : Int32} {tp : (Nat → Int32)} {tn : Int32} {U : MU} {Λ : ML} {C : MC} {K : MK} {H : MH} {i : Int32} (k : Nat) (hd : decode cc pc = .ok (.iaload, 1)) (e : i = nI k) (hi : k < 160) (kk : Ex X (RX10, mn, cc, nL, rk0) d Ret cb sb (pc + 1) L (.int (tp k) :: st) (cst S ++ (mw (tx, ts, tc, tp, tn) U Λ C K H ++ tl))) : Ex X (RX10, mn, cc, nL, rk0) d Ret cb sb pc L (.int i :: .ref 45 :: st) (cst S ++ (mw (tx, ts, tc, tp, tn) U Λ C K H ++ tl)) := by
  subst e
  exact maN_45 hd hi kk
theorem msK_45 {tx : (Nat → Int32)} {ts : (Nat → Int32)} {tc : Int32} {tp : (Nat → Int32)} {tn : Int32} {U : MU} {Λ : ML} {C : MC} {K : MK} {H : MH} {i x : Int32} (k : Nat) (hd : decode cc pc = .ok (.iastore, 1)) (e : i = nI k) (hi : k < 160) (kk : Ex X (RX10, mn, cc, nL, rk0) d Ret cb sb (pc + 1) L st (cst S ++ (mw (tx, ts, tc, (upd tp k x), tn) U Λ C K H ++ tl))) : Ex X (RX10, mn, cc, nL, rk0) d Ret cb sb pc L (.int x :: .int i :: .ref 45 :: st) (cst S ++ (mw (tx, ts, tc, tp, tn) U Λ C K H ++ tl)) := by
  subst e
  exact msN_45 hd hi kk
theorem maK_46 {T : MT} {ru : Int32} {ou : (Nat → Int32)} {we : (Nat → Int32)} {me : Int32} {ki : (Nat → Int32)} {ro : (Nat → Int32)} {ma : Int32} {Λ : ML} {C : MC} {K : MK} {H : MH} {i : Int32} (k : Nat) (hd : decode cc pc = .ok (.iaload, 1)) (e : i = nI k) (hi : k < 3) (kk : Ex X (RX10, mn, cc, nL, rk0) d Ret cb sb (pc + 1) L (.int (ou k) :: st) (cst S ++ (mw T (ru, ou, we, me, ki, ro, ma) Λ C K H ++ tl))) : Ex X (RX10, mn, cc, nL, rk0) d Ret cb sb pc L (.int i :: .ref 46 :: st) (cst S ++ (mw T (ru, ou, we, me, ki, ro, ma) Λ C K H ++ tl)) := by
  subst e
  exact maN_46 hd hi kk
theorem msK_46 {T : MT} {ru : Int32} {ou : (Nat → Int32)} {we : (Nat → Int32)} {me : Int32} {ki : (Nat → Int32)} {ro : (Nat → Int32)} {ma : Int32} {Λ : ML} {C : MC} {K : MK} {H : MH} {i x : Int32} (k : Nat) (hd : decode cc pc = .ok (.iastore, 1)) (e : i = nI k) (hi : k < 3) (kk : Ex X (RX10, mn, cc, nL, rk0) d Ret cb sb (pc + 1) L st (cst S ++ (mw T (ru, (upd ou k x), we, me, ki, ro, ma) Λ C K H ++ tl))) : Ex X (RX10, mn, cc, nL, rk0) d Ret cb sb pc L (.int x :: .int i :: .ref 46 :: st) (cst S ++ (mw T (ru, ou, we, me, ki, ro, ma) Λ C K H ++ tl)) := by
  subst e
  exact msN_46 hd hi kk
theorem maK_47 {T : MT} {ru : Int32} {ou : (Nat → Int32)} {we : (Nat → Int32)} {me : Int32} {ki : (Nat → Int32)} {ro : (Nat → Int32)} {ma : Int32} {Λ : ML} {C : MC} {K : MK} {H : MH} {i : Int32} (k : Nat) (hd : decode cc pc = .ok (.iaload, 1)) (e : i = nI k) (hi : k < 8) (kk : Ex X (RX10, mn, cc, nL, rk0) d Ret cb sb (pc + 1) L (.int (we k) :: st) (cst S ++ (mw T (ru, ou, we, me, ki, ro, ma) Λ C K H ++ tl))) : Ex X (RX10, mn, cc, nL, rk0) d Ret cb sb pc L (.int i :: .ref 47 :: st) (cst S ++ (mw T (ru, ou, we, me, ki, ro, ma) Λ C K H ++ tl)) := by
  subst e
  exact maN_47 hd hi kk
theorem msK_47 {T : MT} {ru : Int32} {ou : (Nat → Int32)} {we : (Nat → Int32)} {me : Int32} {ki : (Nat → Int32)} {ro : (Nat → Int32)} {ma : Int32} {Λ : ML} {C : MC} {K : MK} {H : MH} {i x : Int32} (k : Nat) (hd : decode cc pc = .ok (.iastore, 1)) (e : i = nI k) (hi : k < 8) (kk : Ex X (RX10, mn, cc, nL, rk0) d Ret cb sb (pc + 1) L st (cst S ++ (mw T (ru, ou, (upd we k x), me, ki, ro, ma) Λ C K H ++ tl))) : Ex X (RX10, mn, cc, nL, rk0) d Ret cb sb pc L (.int x :: .int i :: .ref 47 :: st) (cst S ++ (mw T (ru, ou, we, me, ki, ro, ma) Λ C K H ++ tl)) := by
  subst e
  exact msN_47 hd hi kk
theorem maK_48 {T : MT} {ru : Int32} {ou : (Nat → Int32)} {we : (Nat → Int32)} {me : Int32} {ki : (Nat → Int32)} {ro : (Nat → Int32)} {ma : Int32} {Λ : ML} {C : MC} {K : MK} {H : MH} {i : Int32} (k : Nat) (hd : decode cc pc = .ok (.iaload, 1)) (e : i = nI k) (hi : k < 6) (kk : Ex X (RX10, mn, cc, nL, rk0) d Ret cb sb (pc + 1) L (.int (ki k) :: st) (cst S ++ (mw T (ru, ou, we, me, ki, ro, ma) Λ C K H ++ tl))) : Ex X (RX10, mn, cc, nL, rk0) d Ret cb sb pc L (.int i :: .ref 48 :: st) (cst S ++ (mw T (ru, ou, we, me, ki, ro, ma) Λ C K H ++ tl)) := by
  subst e
  exact maN_48 hd hi kk
theorem msK_48 {T : MT} {ru : Int32} {ou : (Nat → Int32)} {we : (Nat → Int32)} {me : Int32} {ki : (Nat → Int32)} {ro : (Nat → Int32)} {ma : Int32} {Λ : ML} {C : MC} {K : MK} {H : MH} {i x : Int32} (k : Nat) (hd : decode cc pc = .ok (.iastore, 1)) (e : i = nI k) (hi : k < 6) (kk : Ex X (RX10, mn, cc, nL, rk0) d Ret cb sb (pc + 1) L st (cst S ++ (mw T (ru, ou, we, me, (upd ki k x), ro, ma) Λ C K H ++ tl))) : Ex X (RX10, mn, cc, nL, rk0) d Ret cb sb pc L (.int x :: .int i :: .ref 48 :: st) (cst S ++ (mw T (ru, ou, we, me, ki, ro, ma) Λ C K H ++ tl)) := by
  subst e
  exact msN_48 hd hi kk
theorem maK_49 {T : MT} {ru : Int32} {ou : (Nat → Int32)} {we : (Nat → Int32)} {me : Int32} {ki : (Nat → Int32)} {ro : (Nat → Int32)} {ma : Int32} {Λ : ML} {C : MC} {K : MK} {H : MH} {i : Int32} (k : Nat) (hd : decode cc pc = .ok (.iaload, 1)) (e : i = nI k) (hi : k < 12) (kk : Ex X (RX10, mn, cc, nL, rk0) d Ret cb sb (pc + 1) L (.int (ro k) :: st) (cst S ++ (mw T (ru, ou, we, me, ki, ro, ma) Λ C K H ++ tl))) : Ex X (RX10, mn, cc, nL, rk0) d Ret cb sb pc L (.int i :: .ref 49 :: st) (cst S ++ (mw T (ru, ou, we, me, ki, ro, ma) Λ C K H ++ tl)) := by
  subst e
  exact maN_49 hd hi kk
theorem msK_49 {T : MT} {ru : Int32} {ou : (Nat → Int32)} {we : (Nat → Int32)} {me : Int32} {ki : (Nat → Int32)} {ro : (Nat → Int32)} {ma : Int32} {Λ : ML} {C : MC} {K : MK} {H : MH} {i x : Int32} (k : Nat) (hd : decode cc pc = .ok (.iastore, 1)) (e : i = nI k) (hi : k < 12) (kk : Ex X (RX10, mn, cc, nL, rk0) d Ret cb sb (pc + 1) L st (cst S ++ (mw T (ru, ou, we, me, ki, (upd ro k x), ma) Λ C K H ++ tl))) : Ex X (RX10, mn, cc, nL, rk0) d Ret cb sb pc L (.int x :: .int i :: .ref 49 :: st) (cst S ++ (mw T (ru, ou, we, me, ki, ro, ma) Λ C K H ++ tl)) := by
  subst e
  exact msN_49 hd hi kk
theorem maK_50 {T : MT} {U : MU} {Λ : ML} {co : (Nat → Int32)} {ww : (Nat → Int32)} {K : MK} {H : MH} {i : Int32} (k : Nat) (hd : decode cc pc = .ok (.iaload, 1)) (e : i = nI k) (hi : k < 8) (kk : Ex X (RX10, mn, cc, nL, rk0) d Ret cb sb (pc + 1) L (.int (co k) :: st) (cst S ++ (mw T U Λ (co, ww) K H ++ tl))) : Ex X (RX10, mn, cc, nL, rk0) d Ret cb sb pc L (.int i :: .ref 50 :: st) (cst S ++ (mw T U Λ (co, ww) K H ++ tl)) := by
  subst e
  exact maN_50 hd hi kk
theorem msK_50 {T : MT} {U : MU} {Λ : ML} {co : (Nat → Int32)} {ww : (Nat → Int32)} {K : MK} {H : MH} {i x : Int32} (k : Nat) (hd : decode cc pc = .ok (.iastore, 1)) (e : i = nI k) (hi : k < 8) (kk : Ex X (RX10, mn, cc, nL, rk0) d Ret cb sb (pc + 1) L st (cst S ++ (mw T U Λ ((upd co k x), ww) K H ++ tl))) : Ex X (RX10, mn, cc, nL, rk0) d Ret cb sb pc L (.int x :: .int i :: .ref 50 :: st) (cst S ++ (mw T U Λ (co, ww) K H ++ tl)) := by
  subst e
  exact msN_50 hd hi kk
theorem maK_51 {T : MT} {U : MU} {Λ : ML} {co : (Nat → Int32)} {ww : (Nat → Int32)} {K : MK} {H : MH} {i : Int32} (k : Nat) (hd : decode cc pc = .ok (.iaload, 1)) (e : i = nI k) (hi : k < 8) (kk : Ex X (RX10, mn, cc, nL, rk0) d Ret cb sb (pc + 1) L (.int (ww k) :: st) (cst S ++ (mw T U Λ (co, ww) K H ++ tl))) : Ex X (RX10, mn, cc, nL, rk0) d Ret cb sb pc L (.int i :: .ref 51 :: st) (cst S ++ (mw T U Λ (co, ww) K H ++ tl)) := by
  subst e
  exact maN_51 hd hi kk
theorem msK_51 {T : MT} {U : MU} {Λ : ML} {co : (Nat → Int32)} {ww : (Nat → Int32)} {K : MK} {H : MH} {i x : Int32} (k : Nat) (hd : decode cc pc = .ok (.iastore, 1)) (e : i = nI k) (hi : k < 8) (kk : Ex X (RX10, mn, cc, nL, rk0) d Ret cb sb (pc + 1) L st (cst S ++ (mw T U Λ (co, (upd ww k x)) K H ++ tl))) : Ex X (RX10, mn, cc, nL, rk0) d Ret cb sb pc L (.int x :: .int i :: .ref 51 :: st) (cst S ++ (mw T U Λ (co, ww) K H ++ tl)) := by
  subst e
  exact msN_51 hd hi kk
theorem maK_52 {T : MT} {U : MU} {Λ : ML} {C : MC} {ok : (Nat → Int32)} {wk : (Nat → Int32)} {rk : (Nat → Int32)} {mk : Int32} {nk : Int32} {uk : Int32} {H : MH} {i : Int32} (k : Nat) (hd : decode cc pc = .ok (.iaload, 1)) (e : i = nI k) (hi : k < 3) (kk : Ex X (RX10, mn, cc, nL, rk0) d Ret cb sb (pc + 1) L (.int (ok k) :: st) (cst S ++ (mw T U Λ C (ok, wk, rk, mk, nk, uk) H ++ tl))) : Ex X (RX10, mn, cc, nL, rk0) d Ret cb sb pc L (.int i :: .ref 52 :: st) (cst S ++ (mw T U Λ C (ok, wk, rk, mk, nk, uk) H ++ tl)) := by
  subst e
  exact maN_52 hd hi kk
theorem msK_52 {T : MT} {U : MU} {Λ : ML} {C : MC} {ok : (Nat → Int32)} {wk : (Nat → Int32)} {rk : (Nat → Int32)} {mk : Int32} {nk : Int32} {uk : Int32} {H : MH} {i x : Int32} (k : Nat) (hd : decode cc pc = .ok (.iastore, 1)) (e : i = nI k) (hi : k < 3) (kk : Ex X (RX10, mn, cc, nL, rk0) d Ret cb sb (pc + 1) L st (cst S ++ (mw T U Λ C ((upd ok k x), wk, rk, mk, nk, uk) H ++ tl))) : Ex X (RX10, mn, cc, nL, rk0) d Ret cb sb pc L (.int x :: .int i :: .ref 52 :: st) (cst S ++ (mw T U Λ C (ok, wk, rk, mk, nk, uk) H ++ tl)) := by
  subst e
  exact msN_52 hd hi kk
theorem maK_53 {T : MT} {U : MU} {Λ : ML} {C : MC} {ok : (Nat → Int32)} {wk : (Nat → Int32)} {rk : (Nat → Int32)} {mk : Int32} {nk : Int32} {uk : Int32} {H : MH} {i : Int32} (k : Nat) (hd : decode cc pc = .ok (.iaload, 1)) (e : i = nI k) (hi : k < 8) (kk : Ex X (RX10, mn, cc, nL, rk0) d Ret cb sb (pc + 1) L (.int (wk k) :: st) (cst S ++ (mw T U Λ C (ok, wk, rk, mk, nk, uk) H ++ tl))) : Ex X (RX10, mn, cc, nL, rk0) d Ret cb sb pc L (.int i :: .ref 53 :: st) (cst S ++ (mw T U Λ C (ok, wk, rk, mk, nk, uk) H ++ tl)) := by
  subst e
  exact maN_53 hd hi kk
theorem msK_53 {T : MT} {U : MU} {Λ : ML} {C : MC} {ok : (Nat → Int32)} {wk : (Nat → Int32)} {rk : (Nat → Int32)} {mk : Int32} {nk : Int32} {uk : Int32} {H : MH} {i x : Int32} (k : Nat) (hd : decode cc pc = .ok (.iastore, 1)) (e : i = nI k) (hi : k < 8) (kk : Ex X (RX10, mn, cc, nL, rk0) d Ret cb sb (pc + 1) L st (cst S ++ (mw T U Λ C (ok, (upd wk k x), rk, mk, nk, uk) H ++ tl))) : Ex X (RX10, mn, cc, nL, rk0) d Ret cb sb pc L (.int x :: .int i :: .ref 53 :: st) (cst S ++ (mw T U Λ C (ok, wk, rk, mk, nk, uk) H ++ tl)) := by
  subst e
  exact msN_53 hd hi kk
theorem maK_54 {T : MT} {U : MU} {Λ : ML} {C : MC} {ok : (Nat → Int32)} {wk : (Nat → Int32)} {rk : (Nat → Int32)} {mk : Int32} {nk : Int32} {uk : Int32} {H : MH} {i : Int32} (k : Nat) (hd : decode cc pc = .ok (.iaload, 1)) (e : i = nI k) (hi : k < 12) (kk : Ex X (RX10, mn, cc, nL, rk0) d Ret cb sb (pc + 1) L (.int (rk k) :: st) (cst S ++ (mw T U Λ C (ok, wk, rk, mk, nk, uk) H ++ tl))) : Ex X (RX10, mn, cc, nL, rk0) d Ret cb sb pc L (.int i :: .ref 54 :: st) (cst S ++ (mw T U Λ C (ok, wk, rk, mk, nk, uk) H ++ tl)) := by
  subst e
  exact maN_54 hd hi kk
theorem msK_54 {T : MT} {U : MU} {Λ : ML} {C : MC} {ok : (Nat → Int32)} {wk : (Nat → Int32)} {rk : (Nat → Int32)} {mk : Int32} {nk : Int32} {uk : Int32} {H : MH} {i x : Int32} (k : Nat) (hd : decode cc pc = .ok (.iastore, 1)) (e : i = nI k) (hi : k < 12) (kk : Ex X (RX10, mn, cc, nL, rk0) d Ret cb sb (pc + 1) L st (cst S ++ (mw T U Λ C (ok, wk, (upd rk k x), mk, nk, uk) H ++ tl))) : Ex X (RX10, mn, cc, nL, rk0) d Ret cb sb pc L (.int x :: .int i :: .ref 54 :: st) (cst S ++ (mw T U Λ C (ok, wk, rk, mk, nk, uk) H ++ tl)) := by
  subst e
  exact msN_54 hd hi kk
theorem maK_55 {T : MT} {U : MU} {Λ : ML} {C : MC} {K : MK} {it : (Nat → Int32)} {so : (Nat → Int32)} {ss : (Nat → Int32)} {is : (Nat → Int32)} {i : Int32} (k : Nat) (hd : decode cc pc = .ok (.baload, 1)) (e : i = nI k) (hi : k < 4) (kk : Ex X (RX10, mn, cc, nL, rk0) d Ret cb sb (pc + 1) L (.int (it k) :: st) (cst S ++ (mw T U Λ C K (it, so, ss, is) ++ tl))) : Ex X (RX10, mn, cc, nL, rk0) d Ret cb sb pc L (.int i :: .ref 55 :: st) (cst S ++ (mw T U Λ C K (it, so, ss, is) ++ tl)) := by
  subst e
  exact maN_55 hd hi kk
theorem msK_55 {T : MT} {U : MU} {Λ : ML} {C : MC} {K : MK} {it : (Nat → Int32)} {so : (Nat → Int32)} {ss : (Nat → Int32)} {is : (Nat → Int32)} {i x : Int32} (k : Nat) (hd : decode cc pc = .ok (.bastore, 1)) (e : i = nI k) (hi : k < 4) (kk : Ex X (RX10, mn, cc, nL, rk0) d Ret cb sb (pc + 1) L st (cst S ++ (mw T U Λ C K ((upd it k (vp_nar .boolean x)), so, ss, is) ++ tl))) : Ex X (RX10, mn, cc, nL, rk0) d Ret cb sb pc L (.int x :: .int i :: .ref 55 :: st) (cst S ++ (mw T U Λ C K (it, so, ss, is) ++ tl)) := by
  subst e
  exact msN_55 hd hi kk
theorem maK_56 {T : MT} {U : MU} {Λ : ML} {C : MC} {K : MK} {it : (Nat → Int32)} {so : (Nat → Int32)} {ss : (Nat → Int32)} {is : (Nat → Int32)} {i : Int32} (k : Nat) (hd : decode cc pc = .ok (.iaload, 1)) (e : i = nI k) (hi : k < 4) (kk : Ex X (RX10, mn, cc, nL, rk0) d Ret cb sb (pc + 1) L (.int (so k) :: st) (cst S ++ (mw T U Λ C K (it, so, ss, is) ++ tl))) : Ex X (RX10, mn, cc, nL, rk0) d Ret cb sb pc L (.int i :: .ref 56 :: st) (cst S ++ (mw T U Λ C K (it, so, ss, is) ++ tl)) := by
  subst e
  exact maN_56 hd hi kk
theorem msK_56 {T : MT} {U : MU} {Λ : ML} {C : MC} {K : MK} {it : (Nat → Int32)} {so : (Nat → Int32)} {ss : (Nat → Int32)} {is : (Nat → Int32)} {i x : Int32} (k : Nat) (hd : decode cc pc = .ok (.iastore, 1)) (e : i = nI k) (hi : k < 4) (kk : Ex X (RX10, mn, cc, nL, rk0) d Ret cb sb (pc + 1) L st (cst S ++ (mw T U Λ C K (it, (upd so k x), ss, is) ++ tl))) : Ex X (RX10, mn, cc, nL, rk0) d Ret cb sb pc L (.int x :: .int i :: .ref 56 :: st) (cst S ++ (mw T U Λ C K (it, so, ss, is) ++ tl)) := by
  subst e
  exact msN_56 hd hi kk
theorem maK_57 {T : MT} {U : MU} {Λ : ML} {C : MC} {K : MK} {it : (Nat → Int32)} {so : (Nat → Int32)} {ss : (Nat → Int32)} {is : (Nat → Int32)} {i : Int32} (k : Nat) (hd : decode cc pc = .ok (.iaload, 1)) (e : i = nI k) (hi : k < 4) (kk : Ex X (RX10, mn, cc, nL, rk0) d Ret cb sb (pc + 1) L (.int (ss k) :: st) (cst S ++ (mw T U Λ C K (it, so, ss, is) ++ tl))) : Ex X (RX10, mn, cc, nL, rk0) d Ret cb sb pc L (.int i :: .ref 57 :: st) (cst S ++ (mw T U Λ C K (it, so, ss, is) ++ tl)) := by
  subst e
  exact maN_57 hd hi kk
theorem msK_57 {T : MT} {U : MU} {Λ : ML} {C : MC} {K : MK} {it : (Nat → Int32)} {so : (Nat → Int32)} {ss : (Nat → Int32)} {is : (Nat → Int32)} {i x : Int32} (k : Nat) (hd : decode cc pc = .ok (.iastore, 1)) (e : i = nI k) (hi : k < 4) (kk : Ex X (RX10, mn, cc, nL, rk0) d Ret cb sb (pc + 1) L st (cst S ++ (mw T U Λ C K (it, so, (upd ss k x), is) ++ tl))) : Ex X (RX10, mn, cc, nL, rk0) d Ret cb sb pc L (.int x :: .int i :: .ref 57 :: st) (cst S ++ (mw T U Λ C K (it, so, ss, is) ++ tl)) := by
  subst e
  exact msN_57 hd hi kk
theorem maK_58 {T : MT} {U : MU} {Λ : ML} {C : MC} {K : MK} {it : (Nat → Int32)} {so : (Nat → Int32)} {ss : (Nat → Int32)} {is : (Nat → Int32)} {i : Int32} (k : Nat) (hd : decode cc pc = .ok (.iaload, 1)) (e : i = nI k) (hi : k < 160) (kk : Ex X (RX10, mn, cc, nL, rk0) d Ret cb sb (pc + 1) L (.int (is k) :: st) (cst S ++ (mw T U Λ C K (it, so, ss, is) ++ tl))) : Ex X (RX10, mn, cc, nL, rk0) d Ret cb sb pc L (.int i :: .ref 58 :: st) (cst S ++ (mw T U Λ C K (it, so, ss, is) ++ tl)) := by
  subst e
  exact maN_58 hd hi kk
theorem msK_58 {T : MT} {U : MU} {Λ : ML} {C : MC} {K : MK} {it : (Nat → Int32)} {so : (Nat → Int32)} {ss : (Nat → Int32)} {is : (Nat → Int32)} {i x : Int32} (k : Nat) (hd : decode cc pc = .ok (.iastore, 1)) (e : i = nI k) (hi : k < 160) (kk : Ex X (RX10, mn, cc, nL, rk0) d Ret cb sb (pc + 1) L st (cst S ++ (mw T U Λ C K (it, so, ss, (upd is k x)) ++ tl))) : Ex X (RX10, mn, cc, nL, rk0) d Ret cb sb pc L (.int x :: .int i :: .ref 58 :: st) (cst S ++ (mw T U Λ C K (it, so, ss, is) ++ tl)) := by
  subst e
  exact msN_58 hd hi kk
end MROW2
