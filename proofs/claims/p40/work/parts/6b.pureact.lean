/-! what act reckons -/
