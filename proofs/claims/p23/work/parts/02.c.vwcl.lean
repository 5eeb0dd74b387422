abbrev vwCl : List vw_C := [(RX0, TX0, 1), (RX1, TX1, 17), (RX2, TX2, 4), (RX3, TX3, 2), (RX4, TX4, 4), (RX5, TX5, 3), (RX6, TX6, 18), (RX7, TX7, 56)]
